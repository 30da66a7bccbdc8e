set_option maxHeartbeats 4000000 in
set_option maxRecDepth 100000 in
theorem gX12_copyShore_4_0 (l : Launch) (g : GG) (ad : Nat → Nat) (hD : Dj ad 20) (S : SS) (hI : InvM g ad S) (hAT0 : ATp (S 7) (S 12) 0) (hAT1 : ATp (S 7) (S 12) 1) (hAT2 : ATp (S 7) (S 12) 2) (hAT3 : ATp (S 7) (S 12) 3) (hAT4 : ATp (S 7) (S 12) 4) (hHT0 : HTp (S 7) (S 9) 0) (hHT1 : HTp (S 7) (S 9) 1) (hHT2 : HTp (S 7) (S 9) 2) (hHT3 : HTp (S 7) (S 9) 3) (hHT4 : HTp (S 7) (S 9) 4) : Met l yX12_copyShore (wG (.code yX12_copyShore cX12_copyShore 3 none)) (Rm 1) (XPre g ad 20 S [.ref (ad 0), .int 4, .int 0]) (va_Qv (fun S' => InvM g ad S' ∧ (∀ j, j ∉ ([6, 7, 8, 9, 10, 11, 12] : List Nat) → S' j = S j) ∧ (0 ≤ elm (S 7) 40 + (-1) * elm (S' 7) 0 ∧ 0 ≤ elm (S' 7) 0 + (-1) * elm (S 7) 40) ∧ (0 ≤ elm (S 7) 41 + (-1) * elm (S' 7) 1 ∧ 0 ≤ elm (S' 7) 1 + (-1) * elm (S 7) 41) ∧ (0 ≤ elm (S 7) 43 + (-1) * elm (S' 7) 3 ∧ 0 ≤ elm (S' 7) 3 + (-1) * elm (S 7) 43) ∧ (0 ≤ elm (S 7) 46 + (-1) * elm (S' 7) 6 ∧ 0 ≤ elm (S' 7) 6 + (-1) * elm (S 7) 46) ∧ (0 ≤ elm (S 7) 48 + (-1) * elm (S' 7) 8 ∧ 0 ≤ elm (S' 7) 8 + (-1) * elm (S 7) 48) ∧ (0 ≤ elm (S 7) 49 + (-1) * elm (S' 7) 9 ∧ 0 ≤ elm (S' 7) 9 + (-1) * elm (S 7) 49) ∧ (0 ≤ elm (S 7) 10 + (-1) * elm (S' 7) 10 ∧ 0 ≤ elm (S' 7) 10 + (-1) * elm (S 7) 10) ∧ (0 ≤ elm (S 7) 11 + (-1) * elm (S' 7) 11 ∧ 0 ≤ elm (S' 7) 11 + (-1) * elm (S 7) 11) ∧ (0 ≤ elm (S 7) 13 + (-1) * elm (S' 7) 13 ∧ 0 ≤ elm (S' 7) 13 + (-1) * elm (S 7) 13) ∧ (0 ≤ elm (S 7) 16 + (-1) * elm (S' 7) 16 ∧ 0 ≤ elm (S' 7) 16 + (-1) * elm (S 7) 16) ∧ (0 ≤ elm (S 7) 18 + (-1) * elm (S' 7) 18 ∧ 0 ≤ elm (S' 7) 18 + (-1) * elm (S 7) 18) ∧ (0 ≤ elm (S 7) 19 + (-1) * elm (S' 7) 19 ∧ 0 ≤ elm (S' 7) 19 + (-1) * elm (S 7) 19) ∧ (0 ≤ elm (S 7) 20 + (-1) * elm (S' 7) 20 ∧ 0 ≤ elm (S' 7) 20 + (-1) * elm (S 7) 20) ∧ (0 ≤ elm (S 7) 21 + (-1) * elm (S' 7) 21 ∧ 0 ≤ elm (S' 7) 21 + (-1) * elm (S 7) 21) ∧ (0 ≤ elm (S 7) 23 + (-1) * elm (S' 7) 23 ∧ 0 ≤ elm (S' 7) 23 + (-1) * elm (S 7) 23) ∧ (0 ≤ elm (S 7) 26 + (-1) * elm (S' 7) 26 ∧ 0 ≤ elm (S' 7) 26 + (-1) * elm (S 7) 26) ∧ (0 ≤ elm (S 7) 28 + (-1) * elm (S' 7) 28 ∧ 0 ≤ elm (S' 7) 28 + (-1) * elm (S 7) 28) ∧ (0 ≤ elm (S 7) 29 + (-1) * elm (S' 7) 29 ∧ 0 ≤ elm (S' 7) 29 + (-1) * elm (S 7) 29) ∧ (0 ≤ elm (S 7) 30 + (-1) * elm (S' 7) 30 ∧ 0 ≤ elm (S' 7) 30 + (-1) * elm (S 7) 30) ∧ (0 ≤ elm (S 7) 31 + (-1) * elm (S' 7) 31 ∧ 0 ≤ elm (S' 7) 31 + (-1) * elm (S 7) 31) ∧ (0 ≤ elm (S 7) 33 + (-1) * elm (S' 7) 33 ∧ 0 ≤ elm (S' 7) 33 + (-1) * elm (S 7) 33) ∧ (0 ≤ elm (S 7) 36 + (-1) * elm (S' 7) 36 ∧ 0 ≤ elm (S' 7) 36 + (-1) * elm (S 7) 36) ∧ (0 ≤ elm (S 7) 38 + (-1) * elm (S' 7) 38 ∧ 0 ≤ elm (S' 7) 38 + (-1) * elm (S 7) 38) ∧ (0 ≤ elm (S 7) 39 + (-1) * elm (S' 7) 39 ∧ 0 ≤ elm (S' 7) 39 + (-1) * elm (S 7) 39) ∧ (0 ≤ elm (S 6) 4 + (-1) * elm (S' 6) 0 ∧ 0 ≤ elm (S' 6) 0 + (-1) * elm (S 6) 4) ∧ (0 ≤ elm (S 6) 1 + (-1) * elm (S' 6) 1 ∧ 0 ≤ elm (S' 6) 1 + (-1) * elm (S 6) 1) ∧ (0 ≤ elm (S 6) 2 + (-1) * elm (S' 6) 2 ∧ 0 ≤ elm (S' 6) 2 + (-1) * elm (S 6) 2) ∧ (0 ≤ elm (S 6) 3 + (-1) * elm (S' 6) 3 ∧ 0 ≤ elm (S' 6) 3 + (-1) * elm (S 6) 3) ∧ (ATp (S' 7) (S' 12) 0) ∧ (ATp (S' 7) (S' 12) 1) ∧ (ATp (S' 7) (S' 12) 2) ∧ (ATp (S' 7) (S' 12) 3) ∧ (HTp (S' 7) (S' 9) 0) ∧ (HTp (S' 7) (S' 9) 1) ∧ (HTp (S' 7) (S' 9) 2) ∧ (HTp (S' 7) (S' 9) 3)) (QB g ad 20) (FA ad 20)) 0 0 (FA ad 20) := by
  refine xmet cX12_copyShore "EbbWreckModel" (by decide) rfl (Nat.le_of_ble_eq_true rfl) (fun p e s m below meth c E hr hlk hml hQ ls hl => ?_)
  have hx := E.1
  have hb := E.2.1
  have hs : Sp ad 20 (FA ad 20) := Sp.fa hD
  have hl : lv_has ls 3 [(0, .ref (ad 0)), (1, .int 4), (2, .int 0)] := hl
  obtain ⟨f1, c2, b3⟩ := invM_7 hI
  obtain ⟨v4, ee5⟩ : ∃ z : Int32, f1 40 = z := ⟨_, rfl⟩
  have b6 : Bd v4 (0) (12) := (by rw [← ee5]; exact b3.1 40 (by decide))
  obtain ⟨v7, ee8⟩ : ∃ z : Int32, f1 0 = z := ⟨_, rfl⟩
  have b9 : Bd v7 (0) (12) := (by rw [← ee8]; exact b3.1 0 (by decide))
  obtain ⟨v10, ee11⟩ : ∃ z : Int32, f1 41 = z := ⟨_, rfl⟩
  have b12 : Bd v10 (0) (12) := (by rw [← ee11]; exact b3.2.1 41 (by decide))
  obtain ⟨v13, ee14⟩ : ∃ z : Int32, f1 1 = z := ⟨_, rfl⟩
  have b15 : Bd v13 (0) (12) := (by rw [← ee14]; exact b3.2.1 1 (by decide))
  obtain ⟨v16, ee17⟩ : ∃ z : Int32, f1 43 = z := ⟨_, rfl⟩
  have b18 : Bd v16 (0) (12) := (by rw [← ee17]; exact b3.2.2.2.1 43 (by decide))
  obtain ⟨v19, ee20⟩ : ∃ z : Int32, f1 3 = z := ⟨_, rfl⟩
  have b21 : Bd v19 (0) (12) := (by rw [← ee20]; exact b3.2.2.2.1 3 (by decide))
  obtain ⟨v22, ee23⟩ : ∃ z : Int32, f1 46 = z := ⟨_, rfl⟩
  have b24 : Bd v22 (0) (8) := (by rw [← ee23]; exact b3.2.2.2.2.1 46 (by decide))
  obtain ⟨v25, ee26⟩ : ∃ z : Int32, f1 6 = z := ⟨_, rfl⟩
  have b27 : Bd v25 (0) (8) := (by rw [← ee26]; exact b3.2.2.2.2.1 6 (by decide))
  obtain ⟨v28, ee29⟩ : ∃ z : Int32, f1 48 = z := ⟨_, rfl⟩
  have b30 : Bd v28 (0) (3) := (by rw [← ee29]; exact b3.2.2.2.2.2.2.1 48 (by decide))
  obtain ⟨v31, ee32⟩ : ∃ z : Int32, f1 8 = z := ⟨_, rfl⟩
  have b33 : Bd v31 (0) (3) := (by rw [← ee32]; exact b3.2.2.2.2.2.2.1 8 (by decide))
  obtain ⟨v34, ee35⟩ : ∃ z : Int32, f1 49 = z := ⟨_, rfl⟩
  have b36 : Bd v34 (0) (40) := (by rw [← ee35]; exact b3.2.2.2.2.2.2.2 49 (by decide))
  obtain ⟨v37, ee38⟩ : ∃ z : Int32, f1 9 = z := ⟨_, rfl⟩
  have b39 : Bd v37 (0) (40) := (by rw [← ee38]; exact b3.2.2.2.2.2.2.2 9 (by decide))
  obtain ⟨v40, ee41⟩ : ∃ z : Int32, f1 10 = z := ⟨_, rfl⟩
  have b42 : Bd v40 (0) (12) := (by rw [← ee41]; exact b3.1 10 (by decide))
  obtain ⟨v43, ee44⟩ : ∃ z : Int32, f1 11 = z := ⟨_, rfl⟩
  have b45 : Bd v43 (0) (12) := (by rw [← ee44]; exact b3.2.1 11 (by decide))
  obtain ⟨v46, ee47⟩ : ∃ z : Int32, f1 13 = z := ⟨_, rfl⟩
  have b48 : Bd v46 (0) (12) := (by rw [← ee47]; exact b3.2.2.2.1 13 (by decide))
  obtain ⟨v49, ee50⟩ : ∃ z : Int32, f1 16 = z := ⟨_, rfl⟩
  have b51 : Bd v49 (0) (8) := (by rw [← ee50]; exact b3.2.2.2.2.1 16 (by decide))
  obtain ⟨v52, ee53⟩ : ∃ z : Int32, f1 18 = z := ⟨_, rfl⟩
  have b54 : Bd v52 (0) (3) := (by rw [← ee53]; exact b3.2.2.2.2.2.2.1 18 (by decide))
  obtain ⟨v55, ee56⟩ : ∃ z : Int32, f1 19 = z := ⟨_, rfl⟩
  have b57 : Bd v55 (0) (40) := (by rw [← ee56]; exact b3.2.2.2.2.2.2.2 19 (by decide))
  obtain ⟨v58, ee59⟩ : ∃ z : Int32, f1 20 = z := ⟨_, rfl⟩
  have b60 : Bd v58 (0) (12) := (by rw [← ee59]; exact b3.1 20 (by decide))
  obtain ⟨v61, ee62⟩ : ∃ z : Int32, f1 21 = z := ⟨_, rfl⟩
  have b63 : Bd v61 (0) (12) := (by rw [← ee62]; exact b3.2.1 21 (by decide))
  obtain ⟨v64, ee65⟩ : ∃ z : Int32, f1 23 = z := ⟨_, rfl⟩
  have b66 : Bd v64 (0) (12) := (by rw [← ee65]; exact b3.2.2.2.1 23 (by decide))
  obtain ⟨v67, ee68⟩ : ∃ z : Int32, f1 26 = z := ⟨_, rfl⟩
  have b69 : Bd v67 (0) (8) := (by rw [← ee68]; exact b3.2.2.2.2.1 26 (by decide))
  obtain ⟨v70, ee71⟩ : ∃ z : Int32, f1 28 = z := ⟨_, rfl⟩
  have b72 : Bd v70 (0) (3) := (by rw [← ee71]; exact b3.2.2.2.2.2.2.1 28 (by decide))
  obtain ⟨v73, ee74⟩ : ∃ z : Int32, f1 29 = z := ⟨_, rfl⟩
  have b75 : Bd v73 (0) (40) := (by rw [← ee74]; exact b3.2.2.2.2.2.2.2 29 (by decide))
  obtain ⟨v76, ee77⟩ : ∃ z : Int32, f1 30 = z := ⟨_, rfl⟩
  have b78 : Bd v76 (0) (12) := (by rw [← ee77]; exact b3.1 30 (by decide))
  obtain ⟨v79, ee80⟩ : ∃ z : Int32, f1 31 = z := ⟨_, rfl⟩
  have b81 : Bd v79 (0) (12) := (by rw [← ee80]; exact b3.2.1 31 (by decide))
  obtain ⟨v82, ee83⟩ : ∃ z : Int32, f1 33 = z := ⟨_, rfl⟩
  have b84 : Bd v82 (0) (12) := (by rw [← ee83]; exact b3.2.2.2.1 33 (by decide))
  obtain ⟨v85, ee86⟩ : ∃ z : Int32, f1 36 = z := ⟨_, rfl⟩
  have b87 : Bd v85 (0) (8) := (by rw [← ee86]; exact b3.2.2.2.2.1 36 (by decide))
  obtain ⟨v88, ee89⟩ : ∃ z : Int32, f1 38 = z := ⟨_, rfl⟩
  have b90 : Bd v88 (0) (3) := (by rw [← ee89]; exact b3.2.2.2.2.2.2.1 38 (by decide))
  obtain ⟨v91, ee92⟩ : ∃ z : Int32, f1 39 = z := ⟨_, rfl⟩
  have b93 : Bd v91 (0) (40) := (by rw [← ee92]; exact b3.2.2.2.2.2.2.2 39 (by decide))
  obtain ⟨f94, c95, b96⟩ := invM_6 hI
  obtain ⟨v97, ee98⟩ : ∃ z : Int32, f94 4 = z := ⟨_, rfl⟩
  have b99 : Bd v97 (0) (40000) := (by rw [← ee98]; exact b96 4)
  obtain ⟨v100, ee101⟩ : ∃ z : Int32, f94 0 = z := ⟨_, rfl⟩
  have b102 : Bd v100 (0) (40000) := (by rw [← ee101]; exact b96 0)
  obtain ⟨v103, ee104⟩ : ∃ z : Int32, f94 1 = z := ⟨_, rfl⟩
  have b105 : Bd v103 (0) (40000) := (by rw [← ee104]; exact b96 1)
  obtain ⟨v106, ee107⟩ : ∃ z : Int32, f94 2 = z := ⟨_, rfl⟩
  have b108 : Bd v106 (0) (40000) := (by rw [← ee107]; exact b96 2)
  obtain ⟨v109, ee110⟩ : ∃ z : Int32, f94 3 = z := ⟨_, rfl⟩
  have b111 : Bd v109 (0) (40000) := (by rw [← ee110]; exact b96 3)
  obtain ⟨f112, c113, b114⟩ := invM_12 hI
  obtain ⟨f115, c116, b117⟩ := invM_9 hI
  refine lv_aload_n hx hb dX12_copyShore_0 rfl (lv_at hl 0 rfl) ?_
  obtain ⟨v118, v119, v121, v123, v125, v126, w127, v128, v130, v131, v132, v133, v135, v137, v139, v141, v143, v144, v145, c146, b120, b122, b124, b129, b134, b136, b138, b140, b142⟩ := invM_0 hI
  have c146 : S 0 = .inr (12, [.int v118, .ref (ad 1), .ref (ad 2), .ref (ad 3), .ref (ad 4), .ref (ad 5), .int v119, .int v121, .int v123, .int v125, .int v126, .long w127, .int v128, .int v130, .int v131, .int v132, .ref (ad 6), .ref (ad 7), .ref (ad 8), .ref (ad 9), .ref (ad 10), .ref (ad 11), .ref (ad 12), .ref (ad 13), .ref (ad 14), .ref (ad 15), .int v133, .int v135, .ref (ad 16), .int v137, .int v139, .int v141, .int v143, .int v144, .ref (ad 17), .ref (ad 18), .int v145, .ref (ad 19)]) := c146
  refine xget E hQ 0 (by decide) c146 rfl 16 (by decide) q1484 rfl dX12_copyShore_1 ?_
  refine lv_iconst (v := 1) hx hb dX12_copyShore_4 (by decide) ?_
  refine lv_iload_n hx hb dX12_copyShore_5 rfl (lv_at hl 1 rfl) ?_
  refine lv_iload_n hx hb dX12_copyShore_6 rfl (lv_at hl 2 rfl) ?_
  refine xcSv E hs hQ hml hl.1 (uCopyRow l g ad 20 hD S 6 (by decide) 5 (by decide) f94 1 4 0 (by decide) (by decide) (by decide) c95) mX12_copyRow q1743 rfl ⟨(Nat.le_of_ble_eq_true rfl), (Nat.le_of_ble_eq_true rfl)⟩ ⟨(Nat.le_of_ble_eq_true rfl), (Nat.le_of_ble_eq_true rfl)⟩ (Nat.le_of_ble_eq_true rfl) rfl dX12_copyShore_7 (fun S147 H locs eS147 hQ => ?_)
  have hI := invM_up_6 hI eS147 ⟨_, rfl, cp_b b96⟩
  have b149 : ∀ j, Bd ((cpF f94 1 4 0 1) j) (0) (40000) := cp_b b96
  have c148 : S147 6 = .inl (g.2 0, 5, .inl (cpF f94 1 4 0 1)) := up_at eS147 rfl
  refine lv_aload_n hx hb dX12_copyShore_10 rfl (lv_at hl 0 rfl) ?_
  have c150 : S147 0 = .inr (12, [.int v118, .ref (ad 1), .ref (ad 2), .ref (ad 3), .ref (ad 4), .ref (ad 5), .int v119, .int v121, .int v123, .int v125, .int v126, .long w127, .int v128, .int v130, .int v131, .int v132, .ref (ad 6), .ref (ad 7), .ref (ad 8), .ref (ad 9), .ref (ad 10), .ref (ad 11), .ref (ad 12), .ref (ad 13), .ref (ad 14), .ref (ad 15), .int v133, .int v135, .ref (ad 16), .int v137, .int v139, .int v141, .int v143, .int v144, .ref (ad 17), .ref (ad 18), .int v145, .ref (ad 19)]) := (up_ne eS147 (by decide) c146)
  refine xget E hQ 0 (by decide) c150 rfl 17 (by decide) q1485 rfl dX12_copyShore_11 ?_
  refine lv_bipush (v := 10) hx hb dX12_copyShore_14 (by decide) ?_
  refine lv_iload_n hx hb dX12_copyShore_16 rfl (lv_at hl 1 rfl) ?_
  refine lv_iload_n hx hb dX12_copyShore_17 rfl (lv_at hl 2 rfl) ?_
  have c151 : S147 7 = .inl (g.2 0, 50, .inl f1) := (up_ne eS147 (by decide) c2)
  refine xcSv E hs hQ hml hl.1 (uCopyRow l g ad 20 hD S147 7 (by decide) 50 (by decide) f1 10 4 0 (by decide) (by decide) (by decide) c151) mX12_copyRow q1743 rfl ⟨(Nat.le_of_ble_eq_true rfl), (Nat.le_of_ble_eq_true rfl)⟩ ⟨(Nat.le_of_ble_eq_true rfl), (Nat.le_of_ble_eq_true rfl)⟩ (Nat.le_of_ble_eq_true rfl) rfl dX12_copyShore_18 (fun S152 H locs eS152 hQ => ?_)
  have hI := invM_up_7 hI eS152 ⟨_, rfl, ⟨cp_m (q := 1) b3.1 (by decide), cp_m (q := 1) b3.2.1 (by decide), cp_m (q := 1) b3.2.2.1 (by decide), cp_m (q := 1) b3.2.2.2.1 (by decide), cp_m (q := 1) b3.2.2.2.2.1 (by decide), cp_m (q := 1) b3.2.2.2.2.2.1 (by decide), cp_m (q := 1) b3.2.2.2.2.2.2.1 (by decide), cp_m (q := 1) b3.2.2.2.2.2.2.2 (by decide)⟩⟩
  have b154 : (∀ j, j % 10 = 0 → Bd ((cpF f1 10 4 0 10) j) (0) (12)) ∧ (∀ j, j % 10 = 1 → Bd ((cpF f1 10 4 0 10) j) (0) (12)) ∧ (∀ j, j % 10 = 2 → Bd ((cpF f1 10 4 0 10) j) (0) (6)) ∧ (∀ j, j % 10 = 3 → Bd ((cpF f1 10 4 0 10) j) (0) (12)) ∧ (∀ j, j % 10 = 6 → Bd ((cpF f1 10 4 0 10) j) (0) (8)) ∧ (∀ j, j % 10 = 7 → Bd ((cpF f1 10 4 0 10) j) (0) (6)) ∧ (∀ j, j % 10 = 8 → Bd ((cpF f1 10 4 0 10) j) (0) (3)) ∧ (∀ j, j % 10 = 9 → Bd ((cpF f1 10 4 0 10) j) (0) (40)) := ⟨cp_m (q := 1) b3.1 (by decide), cp_m (q := 1) b3.2.1 (by decide), cp_m (q := 1) b3.2.2.1 (by decide), cp_m (q := 1) b3.2.2.2.1 (by decide), cp_m (q := 1) b3.2.2.2.2.1 (by decide), cp_m (q := 1) b3.2.2.2.2.2.1 (by decide), cp_m (q := 1) b3.2.2.2.2.2.2.1 (by decide), cp_m (q := 1) b3.2.2.2.2.2.2.2 (by decide)⟩
  have c153 : S152 7 = .inl (g.2 0, 50, .inl (cpF f1 10 4 0 10)) := up_at eS152 rfl
  refine lv_aload_n hx hb dX12_copyShore_21 rfl (lv_at hl 0 rfl) ?_
  have c155 : S152 0 = .inr (12, [.int v118, .ref (ad 1), .ref (ad 2), .ref (ad 3), .ref (ad 4), .ref (ad 5), .int v119, .int v121, .int v123, .int v125, .int v126, .long w127, .int v128, .int v130, .int v131, .int v132, .ref (ad 6), .ref (ad 7), .ref (ad 8), .ref (ad 9), .ref (ad 10), .ref (ad 11), .ref (ad 12), .ref (ad 13), .ref (ad 14), .ref (ad 15), .int v133, .int v135, .ref (ad 16), .int v137, .int v139, .int v141, .int v143, .int v144, .ref (ad 17), .ref (ad 18), .int v145, .ref (ad 19)]) := (up_ne eS152 (by decide) c150)
  refine xget E hQ 0 (by decide) c155 rfl 18 (by decide) q1486 rfl dX12_copyShore_22 ?_
  refine lv_bipush (v := 24) hx hb dX12_copyShore_25 (by decide) ?_
  refine lv_iload_n hx hb dX12_copyShore_27 rfl (lv_at hl 1 rfl) ?_
  refine lv_iload_n hx hb dX12_copyShore_28 rfl (lv_at hl 2 rfl) ?_
  obtain ⟨f156, c157⟩ := invM_8 hI
  refine xcSv E hs hQ hml hl.1 (uCopyRow l g ad 20 hD S152 8 (by decide) 120 (by decide) f156 24 4 0 (by decide) (by decide) (by decide) c157) mX12_copyRow q1743 rfl ⟨(Nat.le_of_ble_eq_true rfl), (Nat.le_of_ble_eq_true rfl)⟩ ⟨(Nat.le_of_ble_eq_true rfl), (Nat.le_of_ble_eq_true rfl)⟩ (Nat.le_of_ble_eq_true rfl) rfl dX12_copyShore_29 (fun S159 H locs eS159 hQ => ?_)
  have hI := invM_up_8 hI eS159 ⟨_, rfl⟩
  have c160 : S159 8 = .inl (g.2 0, 120, .inl (cpF f156 24 4 0 24)) := up_at eS159 rfl
  refine lv_aload_n hx hb dX12_copyShore_32 rfl (lv_at hl 0 rfl) ?_
  have c161 : S159 0 = .inr (12, [.int v118, .ref (ad 1), .ref (ad 2), .ref (ad 3), .ref (ad 4), .ref (ad 5), .int v119, .int v121, .int v123, .int v125, .int v126, .long w127, .int v128, .int v130, .int v131, .int v132, .ref (ad 6), .ref (ad 7), .ref (ad 8), .ref (ad 9), .ref (ad 10), .ref (ad 11), .ref (ad 12), .ref (ad 13), .ref (ad 14), .ref (ad 15), .int v133, .int v135, .ref (ad 16), .int v137, .int v139, .int v141, .int v143, .int v144, .ref (ad 17), .ref (ad 18), .int v145, .ref (ad 19)]) := (up_ne eS159 (by decide) c155)
  refine xget E hQ 0 (by decide) c161 rfl 19 (by decide) q1487 rfl dX12_copyShore_33 ?_
  refine lv_bipush (v := 24) hx hb dX12_copyShore_36 (by decide) ?_
  refine lv_iload_n hx hb dX12_copyShore_38 rfl (lv_at hl 1 rfl) ?_
  refine lv_iload_n hx hb dX12_copyShore_39 rfl (lv_at hl 2 rfl) ?_
  have c162 : S159 9 = .inl (g.2 0, 120, .inl f115) := (up_ne eS159 (by decide) (up_ne eS152 (by decide) (up_ne eS147 (by decide) c116)))
  refine xcSv E hs hQ hml hl.1 (uCopyRow l g ad 20 hD S159 9 (by decide) 120 (by decide) f115 24 4 0 (by decide) (by decide) (by decide) c162) mX12_copyRow q1743 rfl ⟨(Nat.le_of_ble_eq_true rfl), (Nat.le_of_ble_eq_true rfl)⟩ ⟨(Nat.le_of_ble_eq_true rfl), (Nat.le_of_ble_eq_true rfl)⟩ (Nat.le_of_ble_eq_true rfl) rfl dX12_copyShore_40 (fun S163 H locs eS163 hQ => ?_)
  have hI := invM_up_9 hI eS163 ⟨_, rfl, ⟨cp_m (q := 8) b117.1 (by decide), cp_m (q := 8) b117.2 (by decide)⟩⟩
  have b165 : (∀ j, j % 3 = 1 → Bd ((cpF f115 24 4 0 24) j) (0) (11)) ∧ (∀ j, j % 3 = 2 → Bd ((cpF f115 24 4 0 24) j) (0) (99)) := ⟨cp_m (q := 8) b117.1 (by decide), cp_m (q := 8) b117.2 (by decide)⟩
  have c164 : S163 9 = .inl (g.2 0, 120, .inl (cpF f115 24 4 0 24)) := up_at eS163 rfl
  refine lv_aload_n hx hb dX12_copyShore_43 rfl (lv_at hl 0 rfl) ?_
  have c166 : S163 0 = .inr (12, [.int v118, .ref (ad 1), .ref (ad 2), .ref (ad 3), .ref (ad 4), .ref (ad 5), .int v119, .int v121, .int v123, .int v125, .int v126, .long w127, .int v128, .int v130, .int v131, .int v132, .ref (ad 6), .ref (ad 7), .ref (ad 8), .ref (ad 9), .ref (ad 10), .ref (ad 11), .ref (ad 12), .ref (ad 13), .ref (ad 14), .ref (ad 15), .int v133, .int v135, .ref (ad 16), .int v137, .int v139, .int v141, .int v143, .int v144, .ref (ad 17), .ref (ad 18), .int v145, .ref (ad 19)]) := (up_ne eS163 (by decide) c161)
  refine xget E hQ 0 (by decide) c166 rfl 20 (by decide) q1488 rfl dX12_copyShore_44 ?_
  refine lv_bipush (v := 24) hx hb dX12_copyShore_47 (by decide) ?_
  refine lv_iload_n hx hb dX12_copyShore_49 rfl (lv_at hl 1 rfl) ?_
  refine lv_iload_n hx hb dX12_copyShore_50 rfl (lv_at hl 2 rfl) ?_
  obtain ⟨f167, c168⟩ := invM_10 hI
  refine xcSv E hs hQ hml hl.1 (uCopyRow l g ad 20 hD S163 10 (by decide) 120 (by decide) f167 24 4 0 (by decide) (by decide) (by decide) c168) mX12_copyRow q1743 rfl ⟨(Nat.le_of_ble_eq_true rfl), (Nat.le_of_ble_eq_true rfl)⟩ ⟨(Nat.le_of_ble_eq_true rfl), (Nat.le_of_ble_eq_true rfl)⟩ (Nat.le_of_ble_eq_true rfl) rfl dX12_copyShore_51 (fun S170 H locs eS170 hQ => ?_)
  have hI := invM_up_10 hI eS170 ⟨_, rfl⟩
  have c171 : S170 10 = .inl (g.2 0, 120, .inl (cpF f167 24 4 0 24)) := up_at eS170 rfl
  refine lv_aload_n hx hb dX12_copyShore_54 rfl (lv_at hl 0 rfl) ?_
  have c172 : S170 0 = .inr (12, [.int v118, .ref (ad 1), .ref (ad 2), .ref (ad 3), .ref (ad 4), .ref (ad 5), .int v119, .int v121, .int v123, .int v125, .int v126, .long w127, .int v128, .int v130, .int v131, .int v132, .ref (ad 6), .ref (ad 7), .ref (ad 8), .ref (ad 9), .ref (ad 10), .ref (ad 11), .ref (ad 12), .ref (ad 13), .ref (ad 14), .ref (ad 15), .int v133, .int v135, .ref (ad 16), .int v137, .int v139, .int v141, .int v143, .int v144, .ref (ad 17), .ref (ad 18), .int v145, .ref (ad 19)]) := (up_ne eS170 (by decide) c166)
  refine xget E hQ 0 (by decide) c172 rfl 21 (by decide) q1489 rfl dX12_copyShore_55 ?_
  refine lv_iconst (v := 3) hx hb dX12_copyShore_58 (by decide) ?_
  refine lv_iload_n hx hb dX12_copyShore_59 rfl (lv_at hl 1 rfl) ?_
  refine lv_iload_n hx hb dX12_copyShore_60 rfl (lv_at hl 2 rfl) ?_
  obtain ⟨f173, c174, b175⟩ := invM_11 hI
  refine xcSv E hs hQ hml hl.1 (uCopyRow l g ad 20 hD S170 11 (by decide) 15 (by decide) f173 3 4 0 (by decide) (by decide) (by decide) c174) mX12_copyRow q1743 rfl ⟨(Nat.le_of_ble_eq_true rfl), (Nat.le_of_ble_eq_true rfl)⟩ ⟨(Nat.le_of_ble_eq_true rfl), (Nat.le_of_ble_eq_true rfl)⟩ (Nat.le_of_ble_eq_true rfl) rfl dX12_copyShore_61 (fun S176 H locs eS176 hQ => ?_)
  have hI := invM_up_11 hI eS176 ⟨_, rfl, cp_b b175⟩
  have b178 : ∀ j, Bd ((cpF f173 3 4 0 3) j) (0) (11) := cp_b b175
  have c177 : S176 11 = .inl (g.2 0, 15, .inl (cpF f173 3 4 0 3)) := up_at eS176 rfl
  refine lv_aload_n hx hb dX12_copyShore_64 rfl (lv_at hl 0 rfl) ?_
  have c179 : S176 0 = .inr (12, [.int v118, .ref (ad 1), .ref (ad 2), .ref (ad 3), .ref (ad 4), .ref (ad 5), .int v119, .int v121, .int v123, .int v125, .int v126, .long w127, .int v128, .int v130, .int v131, .int v132, .ref (ad 6), .ref (ad 7), .ref (ad 8), .ref (ad 9), .ref (ad 10), .ref (ad 11), .ref (ad 12), .ref (ad 13), .ref (ad 14), .ref (ad 15), .int v133, .int v135, .ref (ad 16), .int v137, .int v139, .int v141, .int v143, .int v144, .ref (ad 17), .ref (ad 18), .int v145, .ref (ad 19)]) := (up_ne eS176 (by decide) c172)
  refine xget E hQ 0 (by decide) c179 rfl 22 (by decide) q1490 rfl dX12_copyShore_65 ?_
  refine lv_sipush (v := 160) hx hb dX12_copyShore_68 (by decide) ?_
  refine lv_iload_n hx hb dX12_copyShore_71 rfl (lv_at hl 1 rfl) ?_
  refine lv_iload_n hx hb dX12_copyShore_72 rfl (lv_at hl 2 rfl) ?_
  have c180 : S176 12 = .inl (g.2 0, 800, .inl f112) := (up_ne eS176 (by decide) (up_ne eS170 (by decide) (up_ne eS163 (by decide) (up_ne eS159 (by decide) (up_ne eS152 (by decide) (up_ne eS147 (by decide) c113))))))
  refine xcSv E hs hQ hml hl.1 (uCopyRow l g ad 20 hD S176 12 (by decide) 800 (by decide) f112 160 4 0 (by decide) (by decide) (by decide) c180) mX12_copyRow q1743 rfl ⟨(Nat.le_of_ble_eq_true rfl), (Nat.le_of_ble_eq_true rfl)⟩ ⟨(Nat.le_of_ble_eq_true rfl), (Nat.le_of_ble_eq_true rfl)⟩ (Nat.le_of_ble_eq_true rfl) rfl dX12_copyShore_73 (fun S181 H locs eS181 hQ => ?_)
  have hI := invM_up_12 hI eS181 ⟨_, rfl, ⟨cp_m (q := 40) b114.1 (by decide), cp_m (q := 40) b114.2 (by decide)⟩⟩
  have b183 : (∀ j, j % 4 = 1 → Bd ((cpF f112 160 4 0 160) j) (0) (7)) ∧ (∀ j, j % 4 = 2 → Bd ((cpF f112 160 4 0 160) j) (0) (400)) := ⟨cp_m (q := 40) b114.1 (by decide), cp_m (q := 40) b114.2 (by decide)⟩
  have c182 : S181 12 = .inl (g.2 0, 800, .inl (cpF f112 160 4 0 160)) := up_at eS181 rfl
  have q184 : elm (S 7) 40 = v4.toInt := (elm_of c2 40).trans (congrArg Int32.toInt (ee5))
  have c185 : S181 7 = .inl (g.2 0, 50, .inl (cpF f1 10 4 0 10)) := (up_ne eS181 (by decide) (up_ne eS176 (by decide) (up_ne eS170 (by decide) (up_ne eS163 (by decide) (up_ne eS159 (by decide) c153)))))
  have q186 : elm (S181 7) 0 = v4.toInt := (elm_of c185 0).trans (congrArg Int32.toInt (((show cpF f1 10 4 0 10 0 = f1 40 from rfl).trans (ee5))))
  have q187 : elm (S 7) 41 = v10.toInt := (elm_of c2 41).trans (congrArg Int32.toInt (ee11))
  have q188 : elm (S181 7) 1 = v10.toInt := (elm_of c185 1).trans (congrArg Int32.toInt (((show cpF f1 10 4 0 10 1 = f1 41 from rfl).trans (ee11))))
  have q189 : elm (S 7) 43 = v16.toInt := (elm_of c2 43).trans (congrArg Int32.toInt (ee17))
  have q190 : elm (S181 7) 3 = v16.toInt := (elm_of c185 3).trans (congrArg Int32.toInt (((show cpF f1 10 4 0 10 3 = f1 43 from rfl).trans (ee17))))
  have q191 : elm (S 7) 46 = v22.toInt := (elm_of c2 46).trans (congrArg Int32.toInt (ee23))
  have q192 : elm (S181 7) 6 = v22.toInt := (elm_of c185 6).trans (congrArg Int32.toInt (((show cpF f1 10 4 0 10 6 = f1 46 from rfl).trans (ee23))))
  have q193 : elm (S 7) 48 = v28.toInt := (elm_of c2 48).trans (congrArg Int32.toInt (ee29))
  have q194 : elm (S181 7) 8 = v28.toInt := (elm_of c185 8).trans (congrArg Int32.toInt (((show cpF f1 10 4 0 10 8 = f1 48 from rfl).trans (ee29))))
  have q195 : elm (S 7) 49 = v34.toInt := (elm_of c2 49).trans (congrArg Int32.toInt (ee35))
  have q196 : elm (S181 7) 9 = v34.toInt := (elm_of c185 9).trans (congrArg Int32.toInt (((show cpF f1 10 4 0 10 9 = f1 49 from rfl).trans (ee35))))
  have q197 : elm (S 7) 10 = v40.toInt := (elm_of c2 10).trans (congrArg Int32.toInt (ee41))
  have q198 : elm (S181 7) 10 = v40.toInt := (elm_of c185 10).trans (congrArg Int32.toInt (((show cpF f1 10 4 0 10 10 = f1 10 from rfl).trans (ee41))))
  have q199 : elm (S 7) 11 = v43.toInt := (elm_of c2 11).trans (congrArg Int32.toInt (ee44))
  have q200 : elm (S181 7) 11 = v43.toInt := (elm_of c185 11).trans (congrArg Int32.toInt (((show cpF f1 10 4 0 10 11 = f1 11 from rfl).trans (ee44))))
  have q201 : elm (S 7) 13 = v46.toInt := (elm_of c2 13).trans (congrArg Int32.toInt (ee47))
  have q202 : elm (S181 7) 13 = v46.toInt := (elm_of c185 13).trans (congrArg Int32.toInt (((show cpF f1 10 4 0 10 13 = f1 13 from rfl).trans (ee47))))
  have q203 : elm (S 7) 16 = v49.toInt := (elm_of c2 16).trans (congrArg Int32.toInt (ee50))
  have q204 : elm (S181 7) 16 = v49.toInt := (elm_of c185 16).trans (congrArg Int32.toInt (((show cpF f1 10 4 0 10 16 = f1 16 from rfl).trans (ee50))))
  have q205 : elm (S 7) 18 = v52.toInt := (elm_of c2 18).trans (congrArg Int32.toInt (ee53))
  have q206 : elm (S181 7) 18 = v52.toInt := (elm_of c185 18).trans (congrArg Int32.toInt (((show cpF f1 10 4 0 10 18 = f1 18 from rfl).trans (ee53))))
  have q207 : elm (S 7) 19 = v55.toInt := (elm_of c2 19).trans (congrArg Int32.toInt (ee56))
  have q208 : elm (S181 7) 19 = v55.toInt := (elm_of c185 19).trans (congrArg Int32.toInt (((show cpF f1 10 4 0 10 19 = f1 19 from rfl).trans (ee56))))
  have q209 : elm (S 7) 20 = v58.toInt := (elm_of c2 20).trans (congrArg Int32.toInt (ee59))
  have q210 : elm (S181 7) 20 = v58.toInt := (elm_of c185 20).trans (congrArg Int32.toInt (((show cpF f1 10 4 0 10 20 = f1 20 from rfl).trans (ee59))))
  have q211 : elm (S 7) 21 = v61.toInt := (elm_of c2 21).trans (congrArg Int32.toInt (ee62))
  have q212 : elm (S181 7) 21 = v61.toInt := (elm_of c185 21).trans (congrArg Int32.toInt (((show cpF f1 10 4 0 10 21 = f1 21 from rfl).trans (ee62))))
  have q213 : elm (S 7) 23 = v64.toInt := (elm_of c2 23).trans (congrArg Int32.toInt (ee65))
  have q214 : elm (S181 7) 23 = v64.toInt := (elm_of c185 23).trans (congrArg Int32.toInt (((show cpF f1 10 4 0 10 23 = f1 23 from rfl).trans (ee65))))
  have q215 : elm (S 7) 26 = v67.toInt := (elm_of c2 26).trans (congrArg Int32.toInt (ee68))
  have q216 : elm (S181 7) 26 = v67.toInt := (elm_of c185 26).trans (congrArg Int32.toInt (((show cpF f1 10 4 0 10 26 = f1 26 from rfl).trans (ee68))))
  have q217 : elm (S 7) 28 = v70.toInt := (elm_of c2 28).trans (congrArg Int32.toInt (ee71))
  have q218 : elm (S181 7) 28 = v70.toInt := (elm_of c185 28).trans (congrArg Int32.toInt (((show cpF f1 10 4 0 10 28 = f1 28 from rfl).trans (ee71))))
  have q219 : elm (S 7) 29 = v73.toInt := (elm_of c2 29).trans (congrArg Int32.toInt (ee74))
  have q220 : elm (S181 7) 29 = v73.toInt := (elm_of c185 29).trans (congrArg Int32.toInt (((show cpF f1 10 4 0 10 29 = f1 29 from rfl).trans (ee74))))
  have q221 : elm (S 7) 30 = v76.toInt := (elm_of c2 30).trans (congrArg Int32.toInt (ee77))
  have q222 : elm (S181 7) 30 = v76.toInt := (elm_of c185 30).trans (congrArg Int32.toInt (((show cpF f1 10 4 0 10 30 = f1 30 from rfl).trans (ee77))))
  have q223 : elm (S 7) 31 = v79.toInt := (elm_of c2 31).trans (congrArg Int32.toInt (ee80))
  have q224 : elm (S181 7) 31 = v79.toInt := (elm_of c185 31).trans (congrArg Int32.toInt (((show cpF f1 10 4 0 10 31 = f1 31 from rfl).trans (ee80))))
  have q225 : elm (S 7) 33 = v82.toInt := (elm_of c2 33).trans (congrArg Int32.toInt (ee83))
  have q226 : elm (S181 7) 33 = v82.toInt := (elm_of c185 33).trans (congrArg Int32.toInt (((show cpF f1 10 4 0 10 33 = f1 33 from rfl).trans (ee83))))
  have q227 : elm (S 7) 36 = v85.toInt := (elm_of c2 36).trans (congrArg Int32.toInt (ee86))
  have q228 : elm (S181 7) 36 = v85.toInt := (elm_of c185 36).trans (congrArg Int32.toInt (((show cpF f1 10 4 0 10 36 = f1 36 from rfl).trans (ee86))))
  have q229 : elm (S 7) 38 = v88.toInt := (elm_of c2 38).trans (congrArg Int32.toInt (ee89))
  have q230 : elm (S181 7) 38 = v88.toInt := (elm_of c185 38).trans (congrArg Int32.toInt (((show cpF f1 10 4 0 10 38 = f1 38 from rfl).trans (ee89))))
  have q231 : elm (S 7) 39 = v91.toInt := (elm_of c2 39).trans (congrArg Int32.toInt (ee92))
  have q232 : elm (S181 7) 39 = v91.toInt := (elm_of c185 39).trans (congrArg Int32.toInt (((show cpF f1 10 4 0 10 39 = f1 39 from rfl).trans (ee92))))
  have q233 : elm (S 6) 4 = v97.toInt := (elm_of c95 4).trans (congrArg Int32.toInt (ee98))
  have c234 : S181 6 = .inl (g.2 0, 5, .inl (cpF f94 1 4 0 1)) := (up_ne eS181 (by decide) (up_ne eS176 (by decide) (up_ne eS170 (by decide) (up_ne eS163 (by decide) (up_ne eS159 (by decide) (up_ne eS152 (by decide) c148))))))
  have q235 : elm (S181 6) 0 = v97.toInt := (elm_of c234 0).trans (congrArg Int32.toInt (((show cpF f94 1 4 0 1 0 = f94 4 from rfl).trans (ee98))))
  have q236 : elm (S 6) 1 = v103.toInt := (elm_of c95 1).trans (congrArg Int32.toInt (ee104))
  have q237 : elm (S181 6) 1 = v103.toInt := (elm_of c234 1).trans (congrArg Int32.toInt (((show cpF f94 1 4 0 1 1 = f94 1 from rfl).trans (ee104))))
  have q238 : elm (S 6) 2 = v106.toInt := (elm_of c95 2).trans (congrArg Int32.toInt (ee107))
  have q239 : elm (S181 6) 2 = v106.toInt := (elm_of c234 2).trans (congrArg Int32.toInt (((show cpF f94 1 4 0 1 2 = f94 2 from rfl).trans (ee107))))
  have q240 : elm (S 6) 3 = v109.toInt := (elm_of c95 3).trans (congrArg Int32.toInt (ee110))
  have q241 : elm (S181 6) 3 = v109.toInt := (elm_of c234 3).trans (congrArg Int32.toInt (((show cpF f94 1 4 0 1 3 = f94 3 from rfl).trans (ee110))))
  have c242 : S181 9 = .inl (g.2 0, 120, .inl (cpF f115 24 4 0 24)) := (up_ne eS181 (by decide) (up_ne eS176 (by decide) (up_ne eS170 (by decide) c164)))
  exact xrv E hr hlk hQ (⟨hI, (up_o (up_o (up_o (up_o (up_o (up_o (up_o o_refl eS147 (by decide)) eS152 (by decide)) eS159 (by decide)) eS163 (by decide)) eS170 (by decide)) eS176 (by decide)) eS181 (by decide)), ⟨by omega, by omega⟩, ⟨by omega, by omega⟩, ⟨by omega, by omega⟩, ⟨by omega, by omega⟩, ⟨by omega, by omega⟩, ⟨by omega, by omega⟩, ⟨by omega, by omega⟩, ⟨by omega, by omega⟩, ⟨by omega, by omega⟩, ⟨by omega, by omega⟩, ⟨by omega, by omega⟩, ⟨by omega, by omega⟩, ⟨by omega, by omega⟩, ⟨by omega, by omega⟩, ⟨by omega, by omega⟩, ⟨by omega, by omega⟩, ⟨by omega, by omega⟩, ⟨by omega, by omega⟩, ⟨by omega, by omega⟩, ⟨by omega, by omega⟩, ⟨by omega, by omega⟩, ⟨by omega, by omega⟩, ⟨by omega, by omega⟩, ⟨by omega, by omega⟩, ⟨by omega, by omega⟩, ⟨by omega, by omega⟩, ⟨by omega, by omega⟩, ⟨by omega, by omega⟩, (at_cpb c2 c113 c185 c182 b3.2.2.2.2.2.2.2 hAT4), (at_cpo c2 c113 c185 c182 b3.2.2.2.2.2.2.2 (by decide) hAT1), (at_cpo c2 c113 c185 c182 b3.2.2.2.2.2.2.2 (by decide) hAT2), (at_cpo c2 c113 c185 c182 b3.2.2.2.2.2.2.2 (by decide) hAT3), (ht_cpb c2 c116 c185 c242 b3.2.2.2.2.1 hHT4), (ht_cpo c2 c116 c185 c242 b3.2.2.2.2.1 (by decide) hHT1), (ht_cpo c2 c116 c185 c242 b3.2.2.2.2.1 (by decide) hHT2), (ht_cpo c2 c116 c185 c242 b3.2.2.2.2.1 (by decide) hHT3)⟩) dX12_copyShore_76
set_option maxHeartbeats 4000000 in
set_option maxRecDepth 100000 in
theorem gX12_copyShore_0_1 (l : Launch) (g : GG) (ad : Nat → Nat) (hD : Dj ad 20) (S : SS) (hI : InvM g ad S) (hAT0 : ATp (S 7) (S 12) 0) (hAT1 : ATp (S 7) (S 12) 1) (hAT2 : ATp (S 7) (S 12) 2) (hAT3 : ATp (S 7) (S 12) 3) (hHT0 : HTp (S 7) (S 9) 0) (hHT1 : HTp (S 7) (S 9) 1) (hHT2 : HTp (S 7) (S 9) 2) (hHT3 : HTp (S 7) (S 9) 3) : Met l yX12_copyShore (wG (.code yX12_copyShore cX12_copyShore 3 none)) (Rm 1) (XPre g ad 20 S [.ref (ad 0), .int 0, .int 1]) (va_Qv (fun S' => InvM g ad S' ∧ (∀ j, j ∉ ([6, 7, 8, 9, 10, 11, 12] : List Nat) → S' j = S j) ∧ (0 ≤ elm (S 7) 0 + (-1) * elm (S' 7) 10 ∧ 0 ≤ elm (S' 7) 10 + (-1) * elm (S 7) 0) ∧ (0 ≤ elm (S 7) 1 + (-1) * elm (S' 7) 11 ∧ 0 ≤ elm (S' 7) 11 + (-1) * elm (S 7) 1) ∧ (0 ≤ elm (S 7) 3 + (-1) * elm (S' 7) 13 ∧ 0 ≤ elm (S' 7) 13 + (-1) * elm (S 7) 3) ∧ (0 ≤ elm (S 7) 6 + (-1) * elm (S' 7) 16 ∧ 0 ≤ elm (S' 7) 16 + (-1) * elm (S 7) 6) ∧ (0 ≤ elm (S 7) 8 + (-1) * elm (S' 7) 18 ∧ 0 ≤ elm (S' 7) 18 + (-1) * elm (S 7) 8) ∧ (0 ≤ elm (S 7) 9 + (-1) * elm (S' 7) 19 ∧ 0 ≤ elm (S' 7) 19 + (-1) * elm (S 7) 9) ∧ (0 ≤ elm (S 7) 0 + (-1) * elm (S' 7) 0 ∧ 0 ≤ elm (S' 7) 0 + (-1) * elm (S 7) 0) ∧ (0 ≤ elm (S 7) 1 + (-1) * elm (S' 7) 1 ∧ 0 ≤ elm (S' 7) 1 + (-1) * elm (S 7) 1) ∧ (0 ≤ elm (S 7) 3 + (-1) * elm (S' 7) 3 ∧ 0 ≤ elm (S' 7) 3 + (-1) * elm (S 7) 3) ∧ (0 ≤ elm (S 7) 6 + (-1) * elm (S' 7) 6 ∧ 0 ≤ elm (S' 7) 6 + (-1) * elm (S 7) 6) ∧ (0 ≤ elm (S 7) 8 + (-1) * elm (S' 7) 8 ∧ 0 ≤ elm (S' 7) 8 + (-1) * elm (S 7) 8) ∧ (0 ≤ elm (S 7) 9 + (-1) * elm (S' 7) 9 ∧ 0 ≤ elm (S' 7) 9 + (-1) * elm (S 7) 9) ∧ (0 ≤ elm (S 7) 20 + (-1) * elm (S' 7) 20 ∧ 0 ≤ elm (S' 7) 20 + (-1) * elm (S 7) 20) ∧ (0 ≤ elm (S 7) 21 + (-1) * elm (S' 7) 21 ∧ 0 ≤ elm (S' 7) 21 + (-1) * elm (S 7) 21) ∧ (0 ≤ elm (S 7) 23 + (-1) * elm (S' 7) 23 ∧ 0 ≤ elm (S' 7) 23 + (-1) * elm (S 7) 23) ∧ (0 ≤ elm (S 7) 26 + (-1) * elm (S' 7) 26 ∧ 0 ≤ elm (S' 7) 26 + (-1) * elm (S 7) 26) ∧ (0 ≤ elm (S 7) 28 + (-1) * elm (S' 7) 28 ∧ 0 ≤ elm (S' 7) 28 + (-1) * elm (S 7) 28) ∧ (0 ≤ elm (S 7) 29 + (-1) * elm (S' 7) 29 ∧ 0 ≤ elm (S' 7) 29 + (-1) * elm (S 7) 29) ∧ (0 ≤ elm (S 7) 30 + (-1) * elm (S' 7) 30 ∧ 0 ≤ elm (S' 7) 30 + (-1) * elm (S 7) 30) ∧ (0 ≤ elm (S 7) 31 + (-1) * elm (S' 7) 31 ∧ 0 ≤ elm (S' 7) 31 + (-1) * elm (S 7) 31) ∧ (0 ≤ elm (S 7) 33 + (-1) * elm (S' 7) 33 ∧ 0 ≤ elm (S' 7) 33 + (-1) * elm (S 7) 33) ∧ (0 ≤ elm (S 7) 36 + (-1) * elm (S' 7) 36 ∧ 0 ≤ elm (S' 7) 36 + (-1) * elm (S 7) 36) ∧ (0 ≤ elm (S 7) 38 + (-1) * elm (S' 7) 38 ∧ 0 ≤ elm (S' 7) 38 + (-1) * elm (S 7) 38) ∧ (0 ≤ elm (S 7) 39 + (-1) * elm (S' 7) 39 ∧ 0 ≤ elm (S' 7) 39 + (-1) * elm (S 7) 39) ∧ (0 ≤ elm (S 6) 0 + (-1) * elm (S' 6) 1 ∧ 0 ≤ elm (S' 6) 1 + (-1) * elm (S 6) 0) ∧ (0 ≤ elm (S 6) 0 + (-1) * elm (S' 6) 0 ∧ 0 ≤ elm (S' 6) 0 + (-1) * elm (S 6) 0) ∧ (0 ≤ elm (S 6) 2 + (-1) * elm (S' 6) 2 ∧ 0 ≤ elm (S' 6) 2 + (-1) * elm (S 6) 2) ∧ (0 ≤ elm (S 6) 3 + (-1) * elm (S' 6) 3 ∧ 0 ≤ elm (S' 6) 3 + (-1) * elm (S 6) 3) ∧ (ATp (S' 7) (S' 12) 0) ∧ (ATp (S' 7) (S' 12) 1) ∧ (ATp (S' 7) (S' 12) 2) ∧ (ATp (S' 7) (S' 12) 3) ∧ (HTp (S' 7) (S' 9) 0) ∧ (HTp (S' 7) (S' 9) 1) ∧ (HTp (S' 7) (S' 9) 2) ∧ (HTp (S' 7) (S' 9) 3)) (QB g ad 20) (FA ad 20)) 0 0 (FA ad 20) := by
  refine xmet cX12_copyShore "EbbWreckModel" (by decide) rfl (Nat.le_of_ble_eq_true rfl) (fun p e s m below meth c E hr hlk hml hQ ls hl => ?_)
  have hx := E.1
  have hb := E.2.1
  have hs : Sp ad 20 (FA ad 20) := Sp.fa hD
  have hl : lv_has ls 3 [(0, .ref (ad 0)), (1, .int 0), (2, .int 1)] := hl
  obtain ⟨f1, c2, b3⟩ := invM_7 hI
  obtain ⟨v4, ee5⟩ : ∃ z : Int32, f1 0 = z := ⟨_, rfl⟩
  have b6 : Bd v4 (0) (12) := (by rw [← ee5]; exact b3.1 0 (by decide))
  obtain ⟨v7, ee8⟩ : ∃ z : Int32, f1 10 = z := ⟨_, rfl⟩
  have b9 : Bd v7 (0) (12) := (by rw [← ee8]; exact b3.1 10 (by decide))
  obtain ⟨v10, ee11⟩ : ∃ z : Int32, f1 1 = z := ⟨_, rfl⟩
  have b12 : Bd v10 (0) (12) := (by rw [← ee11]; exact b3.2.1 1 (by decide))
  obtain ⟨v13, ee14⟩ : ∃ z : Int32, f1 11 = z := ⟨_, rfl⟩
  have b15 : Bd v13 (0) (12) := (by rw [← ee14]; exact b3.2.1 11 (by decide))
  obtain ⟨v16, ee17⟩ : ∃ z : Int32, f1 3 = z := ⟨_, rfl⟩
  have b18 : Bd v16 (0) (12) := (by rw [← ee17]; exact b3.2.2.2.1 3 (by decide))
  obtain ⟨v19, ee20⟩ : ∃ z : Int32, f1 13 = z := ⟨_, rfl⟩
  have b21 : Bd v19 (0) (12) := (by rw [← ee20]; exact b3.2.2.2.1 13 (by decide))
  obtain ⟨v22, ee23⟩ : ∃ z : Int32, f1 6 = z := ⟨_, rfl⟩
  have b24 : Bd v22 (0) (8) := (by rw [← ee23]; exact b3.2.2.2.2.1 6 (by decide))
  obtain ⟨v25, ee26⟩ : ∃ z : Int32, f1 16 = z := ⟨_, rfl⟩
  have b27 : Bd v25 (0) (8) := (by rw [← ee26]; exact b3.2.2.2.2.1 16 (by decide))
  obtain ⟨v28, ee29⟩ : ∃ z : Int32, f1 8 = z := ⟨_, rfl⟩
  have b30 : Bd v28 (0) (3) := (by rw [← ee29]; exact b3.2.2.2.2.2.2.1 8 (by decide))
  obtain ⟨v31, ee32⟩ : ∃ z : Int32, f1 18 = z := ⟨_, rfl⟩
  have b33 : Bd v31 (0) (3) := (by rw [← ee32]; exact b3.2.2.2.2.2.2.1 18 (by decide))
  obtain ⟨v34, ee35⟩ : ∃ z : Int32, f1 9 = z := ⟨_, rfl⟩
  have b36 : Bd v34 (0) (40) := (by rw [← ee35]; exact b3.2.2.2.2.2.2.2 9 (by decide))
  obtain ⟨v37, ee38⟩ : ∃ z : Int32, f1 19 = z := ⟨_, rfl⟩
  have b39 : Bd v37 (0) (40) := (by rw [← ee38]; exact b3.2.2.2.2.2.2.2 19 (by decide))
  obtain ⟨v40, ee41⟩ : ∃ z : Int32, f1 20 = z := ⟨_, rfl⟩
  have b42 : Bd v40 (0) (12) := (by rw [← ee41]; exact b3.1 20 (by decide))
  obtain ⟨v43, ee44⟩ : ∃ z : Int32, f1 21 = z := ⟨_, rfl⟩
  have b45 : Bd v43 (0) (12) := (by rw [← ee44]; exact b3.2.1 21 (by decide))
  obtain ⟨v46, ee47⟩ : ∃ z : Int32, f1 23 = z := ⟨_, rfl⟩
  have b48 : Bd v46 (0) (12) := (by rw [← ee47]; exact b3.2.2.2.1 23 (by decide))
  obtain ⟨v49, ee50⟩ : ∃ z : Int32, f1 26 = z := ⟨_, rfl⟩
  have b51 : Bd v49 (0) (8) := (by rw [← ee50]; exact b3.2.2.2.2.1 26 (by decide))
  obtain ⟨v52, ee53⟩ : ∃ z : Int32, f1 28 = z := ⟨_, rfl⟩
  have b54 : Bd v52 (0) (3) := (by rw [← ee53]; exact b3.2.2.2.2.2.2.1 28 (by decide))
  obtain ⟨v55, ee56⟩ : ∃ z : Int32, f1 29 = z := ⟨_, rfl⟩
  have b57 : Bd v55 (0) (40) := (by rw [← ee56]; exact b3.2.2.2.2.2.2.2 29 (by decide))
  obtain ⟨v58, ee59⟩ : ∃ z : Int32, f1 30 = z := ⟨_, rfl⟩
  have b60 : Bd v58 (0) (12) := (by rw [← ee59]; exact b3.1 30 (by decide))
  obtain ⟨v61, ee62⟩ : ∃ z : Int32, f1 31 = z := ⟨_, rfl⟩
  have b63 : Bd v61 (0) (12) := (by rw [← ee62]; exact b3.2.1 31 (by decide))
  obtain ⟨v64, ee65⟩ : ∃ z : Int32, f1 33 = z := ⟨_, rfl⟩
  have b66 : Bd v64 (0) (12) := (by rw [← ee65]; exact b3.2.2.2.1 33 (by decide))
  obtain ⟨v67, ee68⟩ : ∃ z : Int32, f1 36 = z := ⟨_, rfl⟩
  have b69 : Bd v67 (0) (8) := (by rw [← ee68]; exact b3.2.2.2.2.1 36 (by decide))
  obtain ⟨v70, ee71⟩ : ∃ z : Int32, f1 38 = z := ⟨_, rfl⟩
  have b72 : Bd v70 (0) (3) := (by rw [← ee71]; exact b3.2.2.2.2.2.2.1 38 (by decide))
  obtain ⟨v73, ee74⟩ : ∃ z : Int32, f1 39 = z := ⟨_, rfl⟩
  have b75 : Bd v73 (0) (40) := (by rw [← ee74]; exact b3.2.2.2.2.2.2.2 39 (by decide))
  obtain ⟨f76, c77, b78⟩ := invM_6 hI
  obtain ⟨v79, ee80⟩ : ∃ z : Int32, f76 0 = z := ⟨_, rfl⟩
  have b81 : Bd v79 (0) (40000) := (by rw [← ee80]; exact b78 0)
  obtain ⟨v82, ee83⟩ : ∃ z : Int32, f76 1 = z := ⟨_, rfl⟩
  have b84 : Bd v82 (0) (40000) := (by rw [← ee83]; exact b78 1)
  obtain ⟨v85, ee86⟩ : ∃ z : Int32, f76 2 = z := ⟨_, rfl⟩
  have b87 : Bd v85 (0) (40000) := (by rw [← ee86]; exact b78 2)
  obtain ⟨v88, ee89⟩ : ∃ z : Int32, f76 3 = z := ⟨_, rfl⟩
  have b90 : Bd v88 (0) (40000) := (by rw [← ee89]; exact b78 3)
  obtain ⟨f91, c92, b93⟩ := invM_12 hI
  obtain ⟨f94, c95, b96⟩ := invM_9 hI
  refine lv_aload_n hx hb dX12_copyShore_0 rfl (lv_at hl 0 rfl) ?_
  obtain ⟨v97, v98, v100, v102, v104, v105, w106, v107, v109, v110, v111, v112, v114, v116, v118, v120, v122, v123, v124, c125, b99, b101, b103, b108, b113, b115, b117, b119, b121⟩ := invM_0 hI
  have c125 : S 0 = .inr (12, [.int v97, .ref (ad 1), .ref (ad 2), .ref (ad 3), .ref (ad 4), .ref (ad 5), .int v98, .int v100, .int v102, .int v104, .int v105, .long w106, .int v107, .int v109, .int v110, .int v111, .ref (ad 6), .ref (ad 7), .ref (ad 8), .ref (ad 9), .ref (ad 10), .ref (ad 11), .ref (ad 12), .ref (ad 13), .ref (ad 14), .ref (ad 15), .int v112, .int v114, .ref (ad 16), .int v116, .int v118, .int v120, .int v122, .int v123, .ref (ad 17), .ref (ad 18), .int v124, .ref (ad 19)]) := c125
  refine xget E hQ 0 (by decide) c125 rfl 16 (by decide) q1484 rfl dX12_copyShore_1 ?_
  refine lv_iconst (v := 1) hx hb dX12_copyShore_4 (by decide) ?_
  refine lv_iload_n hx hb dX12_copyShore_5 rfl (lv_at hl 1 rfl) ?_
  refine lv_iload_n hx hb dX12_copyShore_6 rfl (lv_at hl 2 rfl) ?_
  refine xcSv E hs hQ hml hl.1 (uCopyRow l g ad 20 hD S 6 (by decide) 5 (by decide) f76 1 0 1 (by decide) (by decide) (by decide) c77) mX12_copyRow q1743 rfl ⟨(Nat.le_of_ble_eq_true rfl), (Nat.le_of_ble_eq_true rfl)⟩ ⟨(Nat.le_of_ble_eq_true rfl), (Nat.le_of_ble_eq_true rfl)⟩ (Nat.le_of_ble_eq_true rfl) rfl dX12_copyShore_7 (fun S126 H locs eS126 hQ => ?_)
  have hI := invM_up_6 hI eS126 ⟨_, rfl, cp_b b78⟩
  have b128 : ∀ j, Bd ((cpF f76 1 0 1 1) j) (0) (40000) := cp_b b78
  have c127 : S126 6 = .inl (g.2 0, 5, .inl (cpF f76 1 0 1 1)) := up_at eS126 rfl
  refine lv_aload_n hx hb dX12_copyShore_10 rfl (lv_at hl 0 rfl) ?_
  have c129 : S126 0 = .inr (12, [.int v97, .ref (ad 1), .ref (ad 2), .ref (ad 3), .ref (ad 4), .ref (ad 5), .int v98, .int v100, .int v102, .int v104, .int v105, .long w106, .int v107, .int v109, .int v110, .int v111, .ref (ad 6), .ref (ad 7), .ref (ad 8), .ref (ad 9), .ref (ad 10), .ref (ad 11), .ref (ad 12), .ref (ad 13), .ref (ad 14), .ref (ad 15), .int v112, .int v114, .ref (ad 16), .int v116, .int v118, .int v120, .int v122, .int v123, .ref (ad 17), .ref (ad 18), .int v124, .ref (ad 19)]) := (up_ne eS126 (by decide) c125)
  refine xget E hQ 0 (by decide) c129 rfl 17 (by decide) q1485 rfl dX12_copyShore_11 ?_
  refine lv_bipush (v := 10) hx hb dX12_copyShore_14 (by decide) ?_
  refine lv_iload_n hx hb dX12_copyShore_16 rfl (lv_at hl 1 rfl) ?_
  refine lv_iload_n hx hb dX12_copyShore_17 rfl (lv_at hl 2 rfl) ?_
  have c130 : S126 7 = .inl (g.2 0, 50, .inl f1) := (up_ne eS126 (by decide) c2)
  refine xcSv E hs hQ hml hl.1 (uCopyRow l g ad 20 hD S126 7 (by decide) 50 (by decide) f1 10 0 1 (by decide) (by decide) (by decide) c130) mX12_copyRow q1743 rfl ⟨(Nat.le_of_ble_eq_true rfl), (Nat.le_of_ble_eq_true rfl)⟩ ⟨(Nat.le_of_ble_eq_true rfl), (Nat.le_of_ble_eq_true rfl)⟩ (Nat.le_of_ble_eq_true rfl) rfl dX12_copyShore_18 (fun S131 H locs eS131 hQ => ?_)
  have hI := invM_up_7 hI eS131 ⟨_, rfl, ⟨cp_m (q := 1) b3.1 (by decide), cp_m (q := 1) b3.2.1 (by decide), cp_m (q := 1) b3.2.2.1 (by decide), cp_m (q := 1) b3.2.2.2.1 (by decide), cp_m (q := 1) b3.2.2.2.2.1 (by decide), cp_m (q := 1) b3.2.2.2.2.2.1 (by decide), cp_m (q := 1) b3.2.2.2.2.2.2.1 (by decide), cp_m (q := 1) b3.2.2.2.2.2.2.2 (by decide)⟩⟩
  have b133 : (∀ j, j % 10 = 0 → Bd ((cpF f1 10 0 1 10) j) (0) (12)) ∧ (∀ j, j % 10 = 1 → Bd ((cpF f1 10 0 1 10) j) (0) (12)) ∧ (∀ j, j % 10 = 2 → Bd ((cpF f1 10 0 1 10) j) (0) (6)) ∧ (∀ j, j % 10 = 3 → Bd ((cpF f1 10 0 1 10) j) (0) (12)) ∧ (∀ j, j % 10 = 6 → Bd ((cpF f1 10 0 1 10) j) (0) (8)) ∧ (∀ j, j % 10 = 7 → Bd ((cpF f1 10 0 1 10) j) (0) (6)) ∧ (∀ j, j % 10 = 8 → Bd ((cpF f1 10 0 1 10) j) (0) (3)) ∧ (∀ j, j % 10 = 9 → Bd ((cpF f1 10 0 1 10) j) (0) (40)) := ⟨cp_m (q := 1) b3.1 (by decide), cp_m (q := 1) b3.2.1 (by decide), cp_m (q := 1) b3.2.2.1 (by decide), cp_m (q := 1) b3.2.2.2.1 (by decide), cp_m (q := 1) b3.2.2.2.2.1 (by decide), cp_m (q := 1) b3.2.2.2.2.2.1 (by decide), cp_m (q := 1) b3.2.2.2.2.2.2.1 (by decide), cp_m (q := 1) b3.2.2.2.2.2.2.2 (by decide)⟩
  have c132 : S131 7 = .inl (g.2 0, 50, .inl (cpF f1 10 0 1 10)) := up_at eS131 rfl
  refine lv_aload_n hx hb dX12_copyShore_21 rfl (lv_at hl 0 rfl) ?_
  have c134 : S131 0 = .inr (12, [.int v97, .ref (ad 1), .ref (ad 2), .ref (ad 3), .ref (ad 4), .ref (ad 5), .int v98, .int v100, .int v102, .int v104, .int v105, .long w106, .int v107, .int v109, .int v110, .int v111, .ref (ad 6), .ref (ad 7), .ref (ad 8), .ref (ad 9), .ref (ad 10), .ref (ad 11), .ref (ad 12), .ref (ad 13), .ref (ad 14), .ref (ad 15), .int v112, .int v114, .ref (ad 16), .int v116, .int v118, .int v120, .int v122, .int v123, .ref (ad 17), .ref (ad 18), .int v124, .ref (ad 19)]) := (up_ne eS131 (by decide) c129)
  refine xget E hQ 0 (by decide) c134 rfl 18 (by decide) q1486 rfl dX12_copyShore_22 ?_
  refine lv_bipush (v := 24) hx hb dX12_copyShore_25 (by decide) ?_
  refine lv_iload_n hx hb dX12_copyShore_27 rfl (lv_at hl 1 rfl) ?_
  refine lv_iload_n hx hb dX12_copyShore_28 rfl (lv_at hl 2 rfl) ?_
  obtain ⟨f135, c136⟩ := invM_8 hI
  refine xcSv E hs hQ hml hl.1 (uCopyRow l g ad 20 hD S131 8 (by decide) 120 (by decide) f135 24 0 1 (by decide) (by decide) (by decide) c136) mX12_copyRow q1743 rfl ⟨(Nat.le_of_ble_eq_true rfl), (Nat.le_of_ble_eq_true rfl)⟩ ⟨(Nat.le_of_ble_eq_true rfl), (Nat.le_of_ble_eq_true rfl)⟩ (Nat.le_of_ble_eq_true rfl) rfl dX12_copyShore_29 (fun S138 H locs eS138 hQ => ?_)
  have hI := invM_up_8 hI eS138 ⟨_, rfl⟩
  have c139 : S138 8 = .inl (g.2 0, 120, .inl (cpF f135 24 0 1 24)) := up_at eS138 rfl
  refine lv_aload_n hx hb dX12_copyShore_32 rfl (lv_at hl 0 rfl) ?_
  have c140 : S138 0 = .inr (12, [.int v97, .ref (ad 1), .ref (ad 2), .ref (ad 3), .ref (ad 4), .ref (ad 5), .int v98, .int v100, .int v102, .int v104, .int v105, .long w106, .int v107, .int v109, .int v110, .int v111, .ref (ad 6), .ref (ad 7), .ref (ad 8), .ref (ad 9), .ref (ad 10), .ref (ad 11), .ref (ad 12), .ref (ad 13), .ref (ad 14), .ref (ad 15), .int v112, .int v114, .ref (ad 16), .int v116, .int v118, .int v120, .int v122, .int v123, .ref (ad 17), .ref (ad 18), .int v124, .ref (ad 19)]) := (up_ne eS138 (by decide) c134)
  refine xget E hQ 0 (by decide) c140 rfl 19 (by decide) q1487 rfl dX12_copyShore_33 ?_
  refine lv_bipush (v := 24) hx hb dX12_copyShore_36 (by decide) ?_
  refine lv_iload_n hx hb dX12_copyShore_38 rfl (lv_at hl 1 rfl) ?_
  refine lv_iload_n hx hb dX12_copyShore_39 rfl (lv_at hl 2 rfl) ?_
  have c141 : S138 9 = .inl (g.2 0, 120, .inl f94) := (up_ne eS138 (by decide) (up_ne eS131 (by decide) (up_ne eS126 (by decide) c95)))
  refine xcSv E hs hQ hml hl.1 (uCopyRow l g ad 20 hD S138 9 (by decide) 120 (by decide) f94 24 0 1 (by decide) (by decide) (by decide) c141) mX12_copyRow q1743 rfl ⟨(Nat.le_of_ble_eq_true rfl), (Nat.le_of_ble_eq_true rfl)⟩ ⟨(Nat.le_of_ble_eq_true rfl), (Nat.le_of_ble_eq_true rfl)⟩ (Nat.le_of_ble_eq_true rfl) rfl dX12_copyShore_40 (fun S142 H locs eS142 hQ => ?_)
  have hI := invM_up_9 hI eS142 ⟨_, rfl, ⟨cp_m (q := 8) b96.1 (by decide), cp_m (q := 8) b96.2 (by decide)⟩⟩
  have b144 : (∀ j, j % 3 = 1 → Bd ((cpF f94 24 0 1 24) j) (0) (11)) ∧ (∀ j, j % 3 = 2 → Bd ((cpF f94 24 0 1 24) j) (0) (99)) := ⟨cp_m (q := 8) b96.1 (by decide), cp_m (q := 8) b96.2 (by decide)⟩
  have c143 : S142 9 = .inl (g.2 0, 120, .inl (cpF f94 24 0 1 24)) := up_at eS142 rfl
  refine lv_aload_n hx hb dX12_copyShore_43 rfl (lv_at hl 0 rfl) ?_
  have c145 : S142 0 = .inr (12, [.int v97, .ref (ad 1), .ref (ad 2), .ref (ad 3), .ref (ad 4), .ref (ad 5), .int v98, .int v100, .int v102, .int v104, .int v105, .long w106, .int v107, .int v109, .int v110, .int v111, .ref (ad 6), .ref (ad 7), .ref (ad 8), .ref (ad 9), .ref (ad 10), .ref (ad 11), .ref (ad 12), .ref (ad 13), .ref (ad 14), .ref (ad 15), .int v112, .int v114, .ref (ad 16), .int v116, .int v118, .int v120, .int v122, .int v123, .ref (ad 17), .ref (ad 18), .int v124, .ref (ad 19)]) := (up_ne eS142 (by decide) c140)
  refine xget E hQ 0 (by decide) c145 rfl 20 (by decide) q1488 rfl dX12_copyShore_44 ?_
  refine lv_bipush (v := 24) hx hb dX12_copyShore_47 (by decide) ?_
  refine lv_iload_n hx hb dX12_copyShore_49 rfl (lv_at hl 1 rfl) ?_
  refine lv_iload_n hx hb dX12_copyShore_50 rfl (lv_at hl 2 rfl) ?_
  obtain ⟨f146, c147⟩ := invM_10 hI
  refine xcSv E hs hQ hml hl.1 (uCopyRow l g ad 20 hD S142 10 (by decide) 120 (by decide) f146 24 0 1 (by decide) (by decide) (by decide) c147) mX12_copyRow q1743 rfl ⟨(Nat.le_of_ble_eq_true rfl), (Nat.le_of_ble_eq_true rfl)⟩ ⟨(Nat.le_of_ble_eq_true rfl), (Nat.le_of_ble_eq_true rfl)⟩ (Nat.le_of_ble_eq_true rfl) rfl dX12_copyShore_51 (fun S149 H locs eS149 hQ => ?_)
  have hI := invM_up_10 hI eS149 ⟨_, rfl⟩
  have c150 : S149 10 = .inl (g.2 0, 120, .inl (cpF f146 24 0 1 24)) := up_at eS149 rfl
  refine lv_aload_n hx hb dX12_copyShore_54 rfl (lv_at hl 0 rfl) ?_
  have c151 : S149 0 = .inr (12, [.int v97, .ref (ad 1), .ref (ad 2), .ref (ad 3), .ref (ad 4), .ref (ad 5), .int v98, .int v100, .int v102, .int v104, .int v105, .long w106, .int v107, .int v109, .int v110, .int v111, .ref (ad 6), .ref (ad 7), .ref (ad 8), .ref (ad 9), .ref (ad 10), .ref (ad 11), .ref (ad 12), .ref (ad 13), .ref (ad 14), .ref (ad 15), .int v112, .int v114, .ref (ad 16), .int v116, .int v118, .int v120, .int v122, .int v123, .ref (ad 17), .ref (ad 18), .int v124, .ref (ad 19)]) := (up_ne eS149 (by decide) c145)
  refine xget E hQ 0 (by decide) c151 rfl 21 (by decide) q1489 rfl dX12_copyShore_55 ?_
  refine lv_iconst (v := 3) hx hb dX12_copyShore_58 (by decide) ?_
  refine lv_iload_n hx hb dX12_copyShore_59 rfl (lv_at hl 1 rfl) ?_
  refine lv_iload_n hx hb dX12_copyShore_60 rfl (lv_at hl 2 rfl) ?_
  obtain ⟨f152, c153, b154⟩ := invM_11 hI
  refine xcSv E hs hQ hml hl.1 (uCopyRow l g ad 20 hD S149 11 (by decide) 15 (by decide) f152 3 0 1 (by decide) (by decide) (by decide) c153) mX12_copyRow q1743 rfl ⟨(Nat.le_of_ble_eq_true rfl), (Nat.le_of_ble_eq_true rfl)⟩ ⟨(Nat.le_of_ble_eq_true rfl), (Nat.le_of_ble_eq_true rfl)⟩ (Nat.le_of_ble_eq_true rfl) rfl dX12_copyShore_61 (fun S155 H locs eS155 hQ => ?_)
  have hI := invM_up_11 hI eS155 ⟨_, rfl, cp_b b154⟩
  have b157 : ∀ j, Bd ((cpF f152 3 0 1 3) j) (0) (11) := cp_b b154
  have c156 : S155 11 = .inl (g.2 0, 15, .inl (cpF f152 3 0 1 3)) := up_at eS155 rfl
  refine lv_aload_n hx hb dX12_copyShore_64 rfl (lv_at hl 0 rfl) ?_
  have c158 : S155 0 = .inr (12, [.int v97, .ref (ad 1), .ref (ad 2), .ref (ad 3), .ref (ad 4), .ref (ad 5), .int v98, .int v100, .int v102, .int v104, .int v105, .long w106, .int v107, .int v109, .int v110, .int v111, .ref (ad 6), .ref (ad 7), .ref (ad 8), .ref (ad 9), .ref (ad 10), .ref (ad 11), .ref (ad 12), .ref (ad 13), .ref (ad 14), .ref (ad 15), .int v112, .int v114, .ref (ad 16), .int v116, .int v118, .int v120, .int v122, .int v123, .ref (ad 17), .ref (ad 18), .int v124, .ref (ad 19)]) := (up_ne eS155 (by decide) c151)
  refine xget E hQ 0 (by decide) c158 rfl 22 (by decide) q1490 rfl dX12_copyShore_65 ?_
  refine lv_sipush (v := 160) hx hb dX12_copyShore_68 (by decide) ?_
  refine lv_iload_n hx hb dX12_copyShore_71 rfl (lv_at hl 1 rfl) ?_
  refine lv_iload_n hx hb dX12_copyShore_72 rfl (lv_at hl 2 rfl) ?_
  have c159 : S155 12 = .inl (g.2 0, 800, .inl f91) := (up_ne eS155 (by decide) (up_ne eS149 (by decide) (up_ne eS142 (by decide) (up_ne eS138 (by decide) (up_ne eS131 (by decide) (up_ne eS126 (by decide) c92))))))
  refine xcSv E hs hQ hml hl.1 (uCopyRow l g ad 20 hD S155 12 (by decide) 800 (by decide) f91 160 0 1 (by decide) (by decide) (by decide) c159) mX12_copyRow q1743 rfl ⟨(Nat.le_of_ble_eq_true rfl), (Nat.le_of_ble_eq_true rfl)⟩ ⟨(Nat.le_of_ble_eq_true rfl), (Nat.le_of_ble_eq_true rfl)⟩ (Nat.le_of_ble_eq_true rfl) rfl dX12_copyShore_73 (fun S160 H locs eS160 hQ => ?_)
  have hI := invM_up_12 hI eS160 ⟨_, rfl, ⟨cp_m (q := 40) b93.1 (by decide), cp_m (q := 40) b93.2 (by decide)⟩⟩
  have b162 : (∀ j, j % 4 = 1 → Bd ((cpF f91 160 0 1 160) j) (0) (7)) ∧ (∀ j, j % 4 = 2 → Bd ((cpF f91 160 0 1 160) j) (0) (400)) := ⟨cp_m (q := 40) b93.1 (by decide), cp_m (q := 40) b93.2 (by decide)⟩
  have c161 : S160 12 = .inl (g.2 0, 800, .inl (cpF f91 160 0 1 160)) := up_at eS160 rfl
  have q163 : elm (S 7) 0 = v4.toInt := (elm_of c2 0).trans (congrArg Int32.toInt (ee5))
  have c164 : S160 7 = .inl (g.2 0, 50, .inl (cpF f1 10 0 1 10)) := (up_ne eS160 (by decide) (up_ne eS155 (by decide) (up_ne eS149 (by decide) (up_ne eS142 (by decide) (up_ne eS138 (by decide) c132)))))
  have q165 : elm (S160 7) 10 = v4.toInt := (elm_of c164 10).trans (congrArg Int32.toInt (((show cpF f1 10 0 1 10 10 = f1 0 from rfl).trans (ee5))))
  have q166 : elm (S 7) 1 = v10.toInt := (elm_of c2 1).trans (congrArg Int32.toInt (ee11))
  have q167 : elm (S160 7) 11 = v10.toInt := (elm_of c164 11).trans (congrArg Int32.toInt (((show cpF f1 10 0 1 10 11 = f1 1 from rfl).trans (ee11))))
  have q168 : elm (S 7) 3 = v16.toInt := (elm_of c2 3).trans (congrArg Int32.toInt (ee17))
  have q169 : elm (S160 7) 13 = v16.toInt := (elm_of c164 13).trans (congrArg Int32.toInt (((show cpF f1 10 0 1 10 13 = f1 3 from rfl).trans (ee17))))
  have q170 : elm (S 7) 6 = v22.toInt := (elm_of c2 6).trans (congrArg Int32.toInt (ee23))
  have q171 : elm (S160 7) 16 = v22.toInt := (elm_of c164 16).trans (congrArg Int32.toInt (((show cpF f1 10 0 1 10 16 = f1 6 from rfl).trans (ee23))))
  have q172 : elm (S 7) 8 = v28.toInt := (elm_of c2 8).trans (congrArg Int32.toInt (ee29))
  have q173 : elm (S160 7) 18 = v28.toInt := (elm_of c164 18).trans (congrArg Int32.toInt (((show cpF f1 10 0 1 10 18 = f1 8 from rfl).trans (ee29))))
  have q174 : elm (S 7) 9 = v34.toInt := (elm_of c2 9).trans (congrArg Int32.toInt (ee35))
  have q175 : elm (S160 7) 19 = v34.toInt := (elm_of c164 19).trans (congrArg Int32.toInt (((show cpF f1 10 0 1 10 19 = f1 9 from rfl).trans (ee35))))
  have q176 : elm (S160 7) 0 = v4.toInt := (elm_of c164 0).trans (congrArg Int32.toInt (((show cpF f1 10 0 1 10 0 = f1 0 from rfl).trans (ee5))))
  have q177 : elm (S160 7) 1 = v10.toInt := (elm_of c164 1).trans (congrArg Int32.toInt (((show cpF f1 10 0 1 10 1 = f1 1 from rfl).trans (ee11))))
  have q178 : elm (S160 7) 3 = v16.toInt := (elm_of c164 3).trans (congrArg Int32.toInt (((show cpF f1 10 0 1 10 3 = f1 3 from rfl).trans (ee17))))
  have q179 : elm (S160 7) 6 = v22.toInt := (elm_of c164 6).trans (congrArg Int32.toInt (((show cpF f1 10 0 1 10 6 = f1 6 from rfl).trans (ee23))))
  have q180 : elm (S160 7) 8 = v28.toInt := (elm_of c164 8).trans (congrArg Int32.toInt (((show cpF f1 10 0 1 10 8 = f1 8 from rfl).trans (ee29))))
  have q181 : elm (S160 7) 9 = v34.toInt := (elm_of c164 9).trans (congrArg Int32.toInt (((show cpF f1 10 0 1 10 9 = f1 9 from rfl).trans (ee35))))
  have q182 : elm (S 7) 20 = v40.toInt := (elm_of c2 20).trans (congrArg Int32.toInt (ee41))
  have q183 : elm (S160 7) 20 = v40.toInt := (elm_of c164 20).trans (congrArg Int32.toInt (((show cpF f1 10 0 1 10 20 = f1 20 from rfl).trans (ee41))))
  have q184 : elm (S 7) 21 = v43.toInt := (elm_of c2 21).trans (congrArg Int32.toInt (ee44))
  have q185 : elm (S160 7) 21 = v43.toInt := (elm_of c164 21).trans (congrArg Int32.toInt (((show cpF f1 10 0 1 10 21 = f1 21 from rfl).trans (ee44))))
  have q186 : elm (S 7) 23 = v46.toInt := (elm_of c2 23).trans (congrArg Int32.toInt (ee47))
  have q187 : elm (S160 7) 23 = v46.toInt := (elm_of c164 23).trans (congrArg Int32.toInt (((show cpF f1 10 0 1 10 23 = f1 23 from rfl).trans (ee47))))
  have q188 : elm (S 7) 26 = v49.toInt := (elm_of c2 26).trans (congrArg Int32.toInt (ee50))
  have q189 : elm (S160 7) 26 = v49.toInt := (elm_of c164 26).trans (congrArg Int32.toInt (((show cpF f1 10 0 1 10 26 = f1 26 from rfl).trans (ee50))))
  have q190 : elm (S 7) 28 = v52.toInt := (elm_of c2 28).trans (congrArg Int32.toInt (ee53))
  have q191 : elm (S160 7) 28 = v52.toInt := (elm_of c164 28).trans (congrArg Int32.toInt (((show cpF f1 10 0 1 10 28 = f1 28 from rfl).trans (ee53))))
  have q192 : elm (S 7) 29 = v55.toInt := (elm_of c2 29).trans (congrArg Int32.toInt (ee56))
  have q193 : elm (S160 7) 29 = v55.toInt := (elm_of c164 29).trans (congrArg Int32.toInt (((show cpF f1 10 0 1 10 29 = f1 29 from rfl).trans (ee56))))
  have q194 : elm (S 7) 30 = v58.toInt := (elm_of c2 30).trans (congrArg Int32.toInt (ee59))
  have q195 : elm (S160 7) 30 = v58.toInt := (elm_of c164 30).trans (congrArg Int32.toInt (((show cpF f1 10 0 1 10 30 = f1 30 from rfl).trans (ee59))))
  have q196 : elm (S 7) 31 = v61.toInt := (elm_of c2 31).trans (congrArg Int32.toInt (ee62))
  have q197 : elm (S160 7) 31 = v61.toInt := (elm_of c164 31).trans (congrArg Int32.toInt (((show cpF f1 10 0 1 10 31 = f1 31 from rfl).trans (ee62))))
  have q198 : elm (S 7) 33 = v64.toInt := (elm_of c2 33).trans (congrArg Int32.toInt (ee65))
  have q199 : elm (S160 7) 33 = v64.toInt := (elm_of c164 33).trans (congrArg Int32.toInt (((show cpF f1 10 0 1 10 33 = f1 33 from rfl).trans (ee65))))
  have q200 : elm (S 7) 36 = v67.toInt := (elm_of c2 36).trans (congrArg Int32.toInt (ee68))
  have q201 : elm (S160 7) 36 = v67.toInt := (elm_of c164 36).trans (congrArg Int32.toInt (((show cpF f1 10 0 1 10 36 = f1 36 from rfl).trans (ee68))))
  have q202 : elm (S 7) 38 = v70.toInt := (elm_of c2 38).trans (congrArg Int32.toInt (ee71))
  have q203 : elm (S160 7) 38 = v70.toInt := (elm_of c164 38).trans (congrArg Int32.toInt (((show cpF f1 10 0 1 10 38 = f1 38 from rfl).trans (ee71))))
  have q204 : elm (S 7) 39 = v73.toInt := (elm_of c2 39).trans (congrArg Int32.toInt (ee74))
  have q205 : elm (S160 7) 39 = v73.toInt := (elm_of c164 39).trans (congrArg Int32.toInt (((show cpF f1 10 0 1 10 39 = f1 39 from rfl).trans (ee74))))
  have q206 : elm (S 6) 0 = v79.toInt := (elm_of c77 0).trans (congrArg Int32.toInt (ee80))
  have c207 : S160 6 = .inl (g.2 0, 5, .inl (cpF f76 1 0 1 1)) := (up_ne eS160 (by decide) (up_ne eS155 (by decide) (up_ne eS149 (by decide) (up_ne eS142 (by decide) (up_ne eS138 (by decide) (up_ne eS131 (by decide) c127))))))
  have q208 : elm (S160 6) 1 = v79.toInt := (elm_of c207 1).trans (congrArg Int32.toInt (((show cpF f76 1 0 1 1 1 = f76 0 from rfl).trans (ee80))))
  have q209 : elm (S160 6) 0 = v79.toInt := (elm_of c207 0).trans (congrArg Int32.toInt (((show cpF f76 1 0 1 1 0 = f76 0 from rfl).trans (ee80))))
  have q210 : elm (S 6) 2 = v85.toInt := (elm_of c77 2).trans (congrArg Int32.toInt (ee86))
  have q211 : elm (S160 6) 2 = v85.toInt := (elm_of c207 2).trans (congrArg Int32.toInt (((show cpF f76 1 0 1 1 2 = f76 2 from rfl).trans (ee86))))
  have q212 : elm (S 6) 3 = v88.toInt := (elm_of c77 3).trans (congrArg Int32.toInt (ee89))
  have q213 : elm (S160 6) 3 = v88.toInt := (elm_of c207 3).trans (congrArg Int32.toInt (((show cpF f76 1 0 1 1 3 = f76 3 from rfl).trans (ee89))))
  have c214 : S160 9 = .inl (g.2 0, 120, .inl (cpF f94 24 0 1 24)) := (up_ne eS160 (by decide) (up_ne eS155 (by decide) (up_ne eS149 (by decide) c143)))
  exact xrv E hr hlk hQ (⟨hI, (up_o (up_o (up_o (up_o (up_o (up_o (up_o o_refl eS126 (by decide)) eS131 (by decide)) eS138 (by decide)) eS142 (by decide)) eS149 (by decide)) eS155 (by decide)) eS160 (by decide)), ⟨by omega, by omega⟩, ⟨by omega, by omega⟩, ⟨by omega, by omega⟩, ⟨by omega, by omega⟩, ⟨by omega, by omega⟩, ⟨by omega, by omega⟩, ⟨by omega, by omega⟩, ⟨by omega, by omega⟩, ⟨by omega, by omega⟩, ⟨by omega, by omega⟩, ⟨by omega, by omega⟩, ⟨by omega, by omega⟩, ⟨by omega, by omega⟩, ⟨by omega, by omega⟩, ⟨by omega, by omega⟩, ⟨by omega, by omega⟩, ⟨by omega, by omega⟩, ⟨by omega, by omega⟩, ⟨by omega, by omega⟩, ⟨by omega, by omega⟩, ⟨by omega, by omega⟩, ⟨by omega, by omega⟩, ⟨by omega, by omega⟩, ⟨by omega, by omega⟩, ⟨by omega, by omega⟩, ⟨by omega, by omega⟩, ⟨by omega, by omega⟩, ⟨by omega, by omega⟩, (at_cpo c2 c92 c164 c161 b3.2.2.2.2.2.2.2 (by decide) hAT0), (at_cpb c2 c92 c164 c161 b3.2.2.2.2.2.2.2 hAT0), (at_cpo c2 c92 c164 c161 b3.2.2.2.2.2.2.2 (by decide) hAT2), (at_cpo c2 c92 c164 c161 b3.2.2.2.2.2.2.2 (by decide) hAT3), (ht_cpo c2 c95 c164 c214 b3.2.2.2.2.1 (by decide) hHT0), (ht_cpb c2 c95 c164 c214 b3.2.2.2.2.1 hHT0), (ht_cpo c2 c95 c164 c214 b3.2.2.2.2.1 (by decide) hHT2), (ht_cpo c2 c95 c164 c214 b3.2.2.2.2.1 (by decide) hHT3)⟩) dX12_copyShore_76
set_option maxHeartbeats 4000000 in
set_option maxRecDepth 100000 in
theorem gX12_copyShore_0_2 (l : Launch) (g : GG) (ad : Nat → Nat) (hD : Dj ad 20) (S : SS) (hI : InvM g ad S) (hAT0 : ATp (S 7) (S 12) 0) (hAT1 : ATp (S 7) (S 12) 1) (hAT2 : ATp (S 7) (S 12) 2) (hAT3 : ATp (S 7) (S 12) 3) (hHT0 : HTp (S 7) (S 9) 0) (hHT1 : HTp (S 7) (S 9) 1) (hHT2 : HTp (S 7) (S 9) 2) (hHT3 : HTp (S 7) (S 9) 3) : Met l yX12_copyShore (wG (.code yX12_copyShore cX12_copyShore 3 none)) (Rm 1) (XPre g ad 20 S [.ref (ad 0), .int 0, .int 2]) (va_Qv (fun S' => InvM g ad S' ∧ (∀ j, j ∉ ([6, 7, 8, 9, 10, 11, 12] : List Nat) → S' j = S j) ∧ (0 ≤ elm (S 7) 0 + (-1) * elm (S' 7) 20 ∧ 0 ≤ elm (S' 7) 20 + (-1) * elm (S 7) 0) ∧ (0 ≤ elm (S 7) 1 + (-1) * elm (S' 7) 21 ∧ 0 ≤ elm (S' 7) 21 + (-1) * elm (S 7) 1) ∧ (0 ≤ elm (S 7) 3 + (-1) * elm (S' 7) 23 ∧ 0 ≤ elm (S' 7) 23 + (-1) * elm (S 7) 3) ∧ (0 ≤ elm (S 7) 6 + (-1) * elm (S' 7) 26 ∧ 0 ≤ elm (S' 7) 26 + (-1) * elm (S 7) 6) ∧ (0 ≤ elm (S 7) 8 + (-1) * elm (S' 7) 28 ∧ 0 ≤ elm (S' 7) 28 + (-1) * elm (S 7) 8) ∧ (0 ≤ elm (S 7) 9 + (-1) * elm (S' 7) 29 ∧ 0 ≤ elm (S' 7) 29 + (-1) * elm (S 7) 9) ∧ (0 ≤ elm (S 7) 0 + (-1) * elm (S' 7) 0 ∧ 0 ≤ elm (S' 7) 0 + (-1) * elm (S 7) 0) ∧ (0 ≤ elm (S 7) 1 + (-1) * elm (S' 7) 1 ∧ 0 ≤ elm (S' 7) 1 + (-1) * elm (S 7) 1) ∧ (0 ≤ elm (S 7) 3 + (-1) * elm (S' 7) 3 ∧ 0 ≤ elm (S' 7) 3 + (-1) * elm (S 7) 3) ∧ (0 ≤ elm (S 7) 6 + (-1) * elm (S' 7) 6 ∧ 0 ≤ elm (S' 7) 6 + (-1) * elm (S 7) 6) ∧ (0 ≤ elm (S 7) 8 + (-1) * elm (S' 7) 8 ∧ 0 ≤ elm (S' 7) 8 + (-1) * elm (S 7) 8) ∧ (0 ≤ elm (S 7) 9 + (-1) * elm (S' 7) 9 ∧ 0 ≤ elm (S' 7) 9 + (-1) * elm (S 7) 9) ∧ (0 ≤ elm (S 7) 10 + (-1) * elm (S' 7) 10 ∧ 0 ≤ elm (S' 7) 10 + (-1) * elm (S 7) 10) ∧ (0 ≤ elm (S 7) 11 + (-1) * elm (S' 7) 11 ∧ 0 ≤ elm (S' 7) 11 + (-1) * elm (S 7) 11) ∧ (0 ≤ elm (S 7) 13 + (-1) * elm (S' 7) 13 ∧ 0 ≤ elm (S' 7) 13 + (-1) * elm (S 7) 13) ∧ (0 ≤ elm (S 7) 16 + (-1) * elm (S' 7) 16 ∧ 0 ≤ elm (S' 7) 16 + (-1) * elm (S 7) 16) ∧ (0 ≤ elm (S 7) 18 + (-1) * elm (S' 7) 18 ∧ 0 ≤ elm (S' 7) 18 + (-1) * elm (S 7) 18) ∧ (0 ≤ elm (S 7) 19 + (-1) * elm (S' 7) 19 ∧ 0 ≤ elm (S' 7) 19 + (-1) * elm (S 7) 19) ∧ (0 ≤ elm (S 7) 30 + (-1) * elm (S' 7) 30 ∧ 0 ≤ elm (S' 7) 30 + (-1) * elm (S 7) 30) ∧ (0 ≤ elm (S 7) 31 + (-1) * elm (S' 7) 31 ∧ 0 ≤ elm (S' 7) 31 + (-1) * elm (S 7) 31) ∧ (0 ≤ elm (S 7) 33 + (-1) * elm (S' 7) 33 ∧ 0 ≤ elm (S' 7) 33 + (-1) * elm (S 7) 33) ∧ (0 ≤ elm (S 7) 36 + (-1) * elm (S' 7) 36 ∧ 0 ≤ elm (S' 7) 36 + (-1) * elm (S 7) 36) ∧ (0 ≤ elm (S 7) 38 + (-1) * elm (S' 7) 38 ∧ 0 ≤ elm (S' 7) 38 + (-1) * elm (S 7) 38) ∧ (0 ≤ elm (S 7) 39 + (-1) * elm (S' 7) 39 ∧ 0 ≤ elm (S' 7) 39 + (-1) * elm (S 7) 39) ∧ (0 ≤ elm (S 6) 0 + (-1) * elm (S' 6) 2 ∧ 0 ≤ elm (S' 6) 2 + (-1) * elm (S 6) 0) ∧ (0 ≤ elm (S 6) 0 + (-1) * elm (S' 6) 0 ∧ 0 ≤ elm (S' 6) 0 + (-1) * elm (S 6) 0) ∧ (0 ≤ elm (S 6) 1 + (-1) * elm (S' 6) 1 ∧ 0 ≤ elm (S' 6) 1 + (-1) * elm (S 6) 1) ∧ (0 ≤ elm (S 6) 3 + (-1) * elm (S' 6) 3 ∧ 0 ≤ elm (S' 6) 3 + (-1) * elm (S 6) 3) ∧ (ATp (S' 7) (S' 12) 0) ∧ (ATp (S' 7) (S' 12) 1) ∧ (ATp (S' 7) (S' 12) 2) ∧ (ATp (S' 7) (S' 12) 3) ∧ (HTp (S' 7) (S' 9) 0) ∧ (HTp (S' 7) (S' 9) 1) ∧ (HTp (S' 7) (S' 9) 2) ∧ (HTp (S' 7) (S' 9) 3)) (QB g ad 20) (FA ad 20)) 0 0 (FA ad 20) := by
  refine xmet cX12_copyShore "EbbWreckModel" (by decide) rfl (Nat.le_of_ble_eq_true rfl) (fun p e s m below meth c E hr hlk hml hQ ls hl => ?_)
  have hx := E.1
  have hb := E.2.1
  have hs : Sp ad 20 (FA ad 20) := Sp.fa hD
  have hl : lv_has ls 3 [(0, .ref (ad 0)), (1, .int 0), (2, .int 2)] := hl
  obtain ⟨f1, c2, b3⟩ := invM_7 hI
  obtain ⟨v4, ee5⟩ : ∃ z : Int32, f1 0 = z := ⟨_, rfl⟩
  have b6 : Bd v4 (0) (12) := (by rw [← ee5]; exact b3.1 0 (by decide))
  obtain ⟨v7, ee8⟩ : ∃ z : Int32, f1 20 = z := ⟨_, rfl⟩
  have b9 : Bd v7 (0) (12) := (by rw [← ee8]; exact b3.1 20 (by decide))
  obtain ⟨v10, ee11⟩ : ∃ z : Int32, f1 1 = z := ⟨_, rfl⟩
  have b12 : Bd v10 (0) (12) := (by rw [← ee11]; exact b3.2.1 1 (by decide))
  obtain ⟨v13, ee14⟩ : ∃ z : Int32, f1 21 = z := ⟨_, rfl⟩
  have b15 : Bd v13 (0) (12) := (by rw [← ee14]; exact b3.2.1 21 (by decide))
  obtain ⟨v16, ee17⟩ : ∃ z : Int32, f1 3 = z := ⟨_, rfl⟩
  have b18 : Bd v16 (0) (12) := (by rw [← ee17]; exact b3.2.2.2.1 3 (by decide))
  obtain ⟨v19, ee20⟩ : ∃ z : Int32, f1 23 = z := ⟨_, rfl⟩
  have b21 : Bd v19 (0) (12) := (by rw [← ee20]; exact b3.2.2.2.1 23 (by decide))
  obtain ⟨v22, ee23⟩ : ∃ z : Int32, f1 6 = z := ⟨_, rfl⟩
  have b24 : Bd v22 (0) (8) := (by rw [← ee23]; exact b3.2.2.2.2.1 6 (by decide))
  obtain ⟨v25, ee26⟩ : ∃ z : Int32, f1 26 = z := ⟨_, rfl⟩
  have b27 : Bd v25 (0) (8) := (by rw [← ee26]; exact b3.2.2.2.2.1 26 (by decide))
  obtain ⟨v28, ee29⟩ : ∃ z : Int32, f1 8 = z := ⟨_, rfl⟩
  have b30 : Bd v28 (0) (3) := (by rw [← ee29]; exact b3.2.2.2.2.2.2.1 8 (by decide))
  obtain ⟨v31, ee32⟩ : ∃ z : Int32, f1 28 = z := ⟨_, rfl⟩
  have b33 : Bd v31 (0) (3) := (by rw [← ee32]; exact b3.2.2.2.2.2.2.1 28 (by decide))
  obtain ⟨v34, ee35⟩ : ∃ z : Int32, f1 9 = z := ⟨_, rfl⟩
  have b36 : Bd v34 (0) (40) := (by rw [← ee35]; exact b3.2.2.2.2.2.2.2 9 (by decide))
  obtain ⟨v37, ee38⟩ : ∃ z : Int32, f1 29 = z := ⟨_, rfl⟩
  have b39 : Bd v37 (0) (40) := (by rw [← ee38]; exact b3.2.2.2.2.2.2.2 29 (by decide))
  obtain ⟨v40, ee41⟩ : ∃ z : Int32, f1 10 = z := ⟨_, rfl⟩
  have b42 : Bd v40 (0) (12) := (by rw [← ee41]; exact b3.1 10 (by decide))
  obtain ⟨v43, ee44⟩ : ∃ z : Int32, f1 11 = z := ⟨_, rfl⟩
  have b45 : Bd v43 (0) (12) := (by rw [← ee44]; exact b3.2.1 11 (by decide))
  obtain ⟨v46, ee47⟩ : ∃ z : Int32, f1 13 = z := ⟨_, rfl⟩
  have b48 : Bd v46 (0) (12) := (by rw [← ee47]; exact b3.2.2.2.1 13 (by decide))
  obtain ⟨v49, ee50⟩ : ∃ z : Int32, f1 16 = z := ⟨_, rfl⟩
  have b51 : Bd v49 (0) (8) := (by rw [← ee50]; exact b3.2.2.2.2.1 16 (by decide))
  obtain ⟨v52, ee53⟩ : ∃ z : Int32, f1 18 = z := ⟨_, rfl⟩
  have b54 : Bd v52 (0) (3) := (by rw [← ee53]; exact b3.2.2.2.2.2.2.1 18 (by decide))
  obtain ⟨v55, ee56⟩ : ∃ z : Int32, f1 19 = z := ⟨_, rfl⟩
  have b57 : Bd v55 (0) (40) := (by rw [← ee56]; exact b3.2.2.2.2.2.2.2 19 (by decide))
  obtain ⟨v58, ee59⟩ : ∃ z : Int32, f1 30 = z := ⟨_, rfl⟩
  have b60 : Bd v58 (0) (12) := (by rw [← ee59]; exact b3.1 30 (by decide))
  obtain ⟨v61, ee62⟩ : ∃ z : Int32, f1 31 = z := ⟨_, rfl⟩
  have b63 : Bd v61 (0) (12) := (by rw [← ee62]; exact b3.2.1 31 (by decide))
  obtain ⟨v64, ee65⟩ : ∃ z : Int32, f1 33 = z := ⟨_, rfl⟩
  have b66 : Bd v64 (0) (12) := (by rw [← ee65]; exact b3.2.2.2.1 33 (by decide))
  obtain ⟨v67, ee68⟩ : ∃ z : Int32, f1 36 = z := ⟨_, rfl⟩
  have b69 : Bd v67 (0) (8) := (by rw [← ee68]; exact b3.2.2.2.2.1 36 (by decide))
  obtain ⟨v70, ee71⟩ : ∃ z : Int32, f1 38 = z := ⟨_, rfl⟩
  have b72 : Bd v70 (0) (3) := (by rw [← ee71]; exact b3.2.2.2.2.2.2.1 38 (by decide))
  obtain ⟨v73, ee74⟩ : ∃ z : Int32, f1 39 = z := ⟨_, rfl⟩
  have b75 : Bd v73 (0) (40) := (by rw [← ee74]; exact b3.2.2.2.2.2.2.2 39 (by decide))
  obtain ⟨f76, c77, b78⟩ := invM_6 hI
  obtain ⟨v79, ee80⟩ : ∃ z : Int32, f76 0 = z := ⟨_, rfl⟩
  have b81 : Bd v79 (0) (40000) := (by rw [← ee80]; exact b78 0)
  obtain ⟨v82, ee83⟩ : ∃ z : Int32, f76 2 = z := ⟨_, rfl⟩
  have b84 : Bd v82 (0) (40000) := (by rw [← ee83]; exact b78 2)
  obtain ⟨v85, ee86⟩ : ∃ z : Int32, f76 1 = z := ⟨_, rfl⟩
  have b87 : Bd v85 (0) (40000) := (by rw [← ee86]; exact b78 1)
  obtain ⟨v88, ee89⟩ : ∃ z : Int32, f76 3 = z := ⟨_, rfl⟩
  have b90 : Bd v88 (0) (40000) := (by rw [← ee89]; exact b78 3)
  obtain ⟨f91, c92, b93⟩ := invM_12 hI
  obtain ⟨f94, c95, b96⟩ := invM_9 hI
  refine lv_aload_n hx hb dX12_copyShore_0 rfl (lv_at hl 0 rfl) ?_
  obtain ⟨v97, v98, v100, v102, v104, v105, w106, v107, v109, v110, v111, v112, v114, v116, v118, v120, v122, v123, v124, c125, b99, b101, b103, b108, b113, b115, b117, b119, b121⟩ := invM_0 hI
  have c125 : S 0 = .inr (12, [.int v97, .ref (ad 1), .ref (ad 2), .ref (ad 3), .ref (ad 4), .ref (ad 5), .int v98, .int v100, .int v102, .int v104, .int v105, .long w106, .int v107, .int v109, .int v110, .int v111, .ref (ad 6), .ref (ad 7), .ref (ad 8), .ref (ad 9), .ref (ad 10), .ref (ad 11), .ref (ad 12), .ref (ad 13), .ref (ad 14), .ref (ad 15), .int v112, .int v114, .ref (ad 16), .int v116, .int v118, .int v120, .int v122, .int v123, .ref (ad 17), .ref (ad 18), .int v124, .ref (ad 19)]) := c125
  refine xget E hQ 0 (by decide) c125 rfl 16 (by decide) q1484 rfl dX12_copyShore_1 ?_
  refine lv_iconst (v := 1) hx hb dX12_copyShore_4 (by decide) ?_
  refine lv_iload_n hx hb dX12_copyShore_5 rfl (lv_at hl 1 rfl) ?_
  refine lv_iload_n hx hb dX12_copyShore_6 rfl (lv_at hl 2 rfl) ?_
  refine xcSv E hs hQ hml hl.1 (uCopyRow l g ad 20 hD S 6 (by decide) 5 (by decide) f76 1 0 2 (by decide) (by decide) (by decide) c77) mX12_copyRow q1743 rfl ⟨(Nat.le_of_ble_eq_true rfl), (Nat.le_of_ble_eq_true rfl)⟩ ⟨(Nat.le_of_ble_eq_true rfl), (Nat.le_of_ble_eq_true rfl)⟩ (Nat.le_of_ble_eq_true rfl) rfl dX12_copyShore_7 (fun S126 H locs eS126 hQ => ?_)
  have hI := invM_up_6 hI eS126 ⟨_, rfl, cp_b b78⟩
  have b128 : ∀ j, Bd ((cpF f76 1 0 2 1) j) (0) (40000) := cp_b b78
  have c127 : S126 6 = .inl (g.2 0, 5, .inl (cpF f76 1 0 2 1)) := up_at eS126 rfl
  refine lv_aload_n hx hb dX12_copyShore_10 rfl (lv_at hl 0 rfl) ?_
  have c129 : S126 0 = .inr (12, [.int v97, .ref (ad 1), .ref (ad 2), .ref (ad 3), .ref (ad 4), .ref (ad 5), .int v98, .int v100, .int v102, .int v104, .int v105, .long w106, .int v107, .int v109, .int v110, .int v111, .ref (ad 6), .ref (ad 7), .ref (ad 8), .ref (ad 9), .ref (ad 10), .ref (ad 11), .ref (ad 12), .ref (ad 13), .ref (ad 14), .ref (ad 15), .int v112, .int v114, .ref (ad 16), .int v116, .int v118, .int v120, .int v122, .int v123, .ref (ad 17), .ref (ad 18), .int v124, .ref (ad 19)]) := (up_ne eS126 (by decide) c125)
  refine xget E hQ 0 (by decide) c129 rfl 17 (by decide) q1485 rfl dX12_copyShore_11 ?_
  refine lv_bipush (v := 10) hx hb dX12_copyShore_14 (by decide) ?_
  refine lv_iload_n hx hb dX12_copyShore_16 rfl (lv_at hl 1 rfl) ?_
  refine lv_iload_n hx hb dX12_copyShore_17 rfl (lv_at hl 2 rfl) ?_
  have c130 : S126 7 = .inl (g.2 0, 50, .inl f1) := (up_ne eS126 (by decide) c2)
  refine xcSv E hs hQ hml hl.1 (uCopyRow l g ad 20 hD S126 7 (by decide) 50 (by decide) f1 10 0 2 (by decide) (by decide) (by decide) c130) mX12_copyRow q1743 rfl ⟨(Nat.le_of_ble_eq_true rfl), (Nat.le_of_ble_eq_true rfl)⟩ ⟨(Nat.le_of_ble_eq_true rfl), (Nat.le_of_ble_eq_true rfl)⟩ (Nat.le_of_ble_eq_true rfl) rfl dX12_copyShore_18 (fun S131 H locs eS131 hQ => ?_)
  have hI := invM_up_7 hI eS131 ⟨_, rfl, ⟨cp_m (q := 1) b3.1 (by decide), cp_m (q := 1) b3.2.1 (by decide), cp_m (q := 1) b3.2.2.1 (by decide), cp_m (q := 1) b3.2.2.2.1 (by decide), cp_m (q := 1) b3.2.2.2.2.1 (by decide), cp_m (q := 1) b3.2.2.2.2.2.1 (by decide), cp_m (q := 1) b3.2.2.2.2.2.2.1 (by decide), cp_m (q := 1) b3.2.2.2.2.2.2.2 (by decide)⟩⟩
  have b133 : (∀ j, j % 10 = 0 → Bd ((cpF f1 10 0 2 10) j) (0) (12)) ∧ (∀ j, j % 10 = 1 → Bd ((cpF f1 10 0 2 10) j) (0) (12)) ∧ (∀ j, j % 10 = 2 → Bd ((cpF f1 10 0 2 10) j) (0) (6)) ∧ (∀ j, j % 10 = 3 → Bd ((cpF f1 10 0 2 10) j) (0) (12)) ∧ (∀ j, j % 10 = 6 → Bd ((cpF f1 10 0 2 10) j) (0) (8)) ∧ (∀ j, j % 10 = 7 → Bd ((cpF f1 10 0 2 10) j) (0) (6)) ∧ (∀ j, j % 10 = 8 → Bd ((cpF f1 10 0 2 10) j) (0) (3)) ∧ (∀ j, j % 10 = 9 → Bd ((cpF f1 10 0 2 10) j) (0) (40)) := ⟨cp_m (q := 1) b3.1 (by decide), cp_m (q := 1) b3.2.1 (by decide), cp_m (q := 1) b3.2.2.1 (by decide), cp_m (q := 1) b3.2.2.2.1 (by decide), cp_m (q := 1) b3.2.2.2.2.1 (by decide), cp_m (q := 1) b3.2.2.2.2.2.1 (by decide), cp_m (q := 1) b3.2.2.2.2.2.2.1 (by decide), cp_m (q := 1) b3.2.2.2.2.2.2.2 (by decide)⟩
  have c132 : S131 7 = .inl (g.2 0, 50, .inl (cpF f1 10 0 2 10)) := up_at eS131 rfl
  refine lv_aload_n hx hb dX12_copyShore_21 rfl (lv_at hl 0 rfl) ?_
  have c134 : S131 0 = .inr (12, [.int v97, .ref (ad 1), .ref (ad 2), .ref (ad 3), .ref (ad 4), .ref (ad 5), .int v98, .int v100, .int v102, .int v104, .int v105, .long w106, .int v107, .int v109, .int v110, .int v111, .ref (ad 6), .ref (ad 7), .ref (ad 8), .ref (ad 9), .ref (ad 10), .ref (ad 11), .ref (ad 12), .ref (ad 13), .ref (ad 14), .ref (ad 15), .int v112, .int v114, .ref (ad 16), .int v116, .int v118, .int v120, .int v122, .int v123, .ref (ad 17), .ref (ad 18), .int v124, .ref (ad 19)]) := (up_ne eS131 (by decide) c129)
  refine xget E hQ 0 (by decide) c134 rfl 18 (by decide) q1486 rfl dX12_copyShore_22 ?_
  refine lv_bipush (v := 24) hx hb dX12_copyShore_25 (by decide) ?_
  refine lv_iload_n hx hb dX12_copyShore_27 rfl (lv_at hl 1 rfl) ?_
  refine lv_iload_n hx hb dX12_copyShore_28 rfl (lv_at hl 2 rfl) ?_
  obtain ⟨f135, c136⟩ := invM_8 hI
  refine xcSv E hs hQ hml hl.1 (uCopyRow l g ad 20 hD S131 8 (by decide) 120 (by decide) f135 24 0 2 (by decide) (by decide) (by decide) c136) mX12_copyRow q1743 rfl ⟨(Nat.le_of_ble_eq_true rfl), (Nat.le_of_ble_eq_true rfl)⟩ ⟨(Nat.le_of_ble_eq_true rfl), (Nat.le_of_ble_eq_true rfl)⟩ (Nat.le_of_ble_eq_true rfl) rfl dX12_copyShore_29 (fun S138 H locs eS138 hQ => ?_)
  have hI := invM_up_8 hI eS138 ⟨_, rfl⟩
  have c139 : S138 8 = .inl (g.2 0, 120, .inl (cpF f135 24 0 2 24)) := up_at eS138 rfl
  refine lv_aload_n hx hb dX12_copyShore_32 rfl (lv_at hl 0 rfl) ?_
  have c140 : S138 0 = .inr (12, [.int v97, .ref (ad 1), .ref (ad 2), .ref (ad 3), .ref (ad 4), .ref (ad 5), .int v98, .int v100, .int v102, .int v104, .int v105, .long w106, .int v107, .int v109, .int v110, .int v111, .ref (ad 6), .ref (ad 7), .ref (ad 8), .ref (ad 9), .ref (ad 10), .ref (ad 11), .ref (ad 12), .ref (ad 13), .ref (ad 14), .ref (ad 15), .int v112, .int v114, .ref (ad 16), .int v116, .int v118, .int v120, .int v122, .int v123, .ref (ad 17), .ref (ad 18), .int v124, .ref (ad 19)]) := (up_ne eS138 (by decide) c134)
  refine xget E hQ 0 (by decide) c140 rfl 19 (by decide) q1487 rfl dX12_copyShore_33 ?_
  refine lv_bipush (v := 24) hx hb dX12_copyShore_36 (by decide) ?_
  refine lv_iload_n hx hb dX12_copyShore_38 rfl (lv_at hl 1 rfl) ?_
  refine lv_iload_n hx hb dX12_copyShore_39 rfl (lv_at hl 2 rfl) ?_
  have c141 : S138 9 = .inl (g.2 0, 120, .inl f94) := (up_ne eS138 (by decide) (up_ne eS131 (by decide) (up_ne eS126 (by decide) c95)))
  refine xcSv E hs hQ hml hl.1 (uCopyRow l g ad 20 hD S138 9 (by decide) 120 (by decide) f94 24 0 2 (by decide) (by decide) (by decide) c141) mX12_copyRow q1743 rfl ⟨(Nat.le_of_ble_eq_true rfl), (Nat.le_of_ble_eq_true rfl)⟩ ⟨(Nat.le_of_ble_eq_true rfl), (Nat.le_of_ble_eq_true rfl)⟩ (Nat.le_of_ble_eq_true rfl) rfl dX12_copyShore_40 (fun S142 H locs eS142 hQ => ?_)
  have hI := invM_up_9 hI eS142 ⟨_, rfl, ⟨cp_m (q := 8) b96.1 (by decide), cp_m (q := 8) b96.2 (by decide)⟩⟩
  have b144 : (∀ j, j % 3 = 1 → Bd ((cpF f94 24 0 2 24) j) (0) (11)) ∧ (∀ j, j % 3 = 2 → Bd ((cpF f94 24 0 2 24) j) (0) (99)) := ⟨cp_m (q := 8) b96.1 (by decide), cp_m (q := 8) b96.2 (by decide)⟩
  have c143 : S142 9 = .inl (g.2 0, 120, .inl (cpF f94 24 0 2 24)) := up_at eS142 rfl
  refine lv_aload_n hx hb dX12_copyShore_43 rfl (lv_at hl 0 rfl) ?_
  have c145 : S142 0 = .inr (12, [.int v97, .ref (ad 1), .ref (ad 2), .ref (ad 3), .ref (ad 4), .ref (ad 5), .int v98, .int v100, .int v102, .int v104, .int v105, .long w106, .int v107, .int v109, .int v110, .int v111, .ref (ad 6), .ref (ad 7), .ref (ad 8), .ref (ad 9), .ref (ad 10), .ref (ad 11), .ref (ad 12), .ref (ad 13), .ref (ad 14), .ref (ad 15), .int v112, .int v114, .ref (ad 16), .int v116, .int v118, .int v120, .int v122, .int v123, .ref (ad 17), .ref (ad 18), .int v124, .ref (ad 19)]) := (up_ne eS142 (by decide) c140)
  refine xget E hQ 0 (by decide) c145 rfl 20 (by decide) q1488 rfl dX12_copyShore_44 ?_
  refine lv_bipush (v := 24) hx hb dX12_copyShore_47 (by decide) ?_
  refine lv_iload_n hx hb dX12_copyShore_49 rfl (lv_at hl 1 rfl) ?_
  refine lv_iload_n hx hb dX12_copyShore_50 rfl (lv_at hl 2 rfl) ?_
  obtain ⟨f146, c147⟩ := invM_10 hI
  refine xcSv E hs hQ hml hl.1 (uCopyRow l g ad 20 hD S142 10 (by decide) 120 (by decide) f146 24 0 2 (by decide) (by decide) (by decide) c147) mX12_copyRow q1743 rfl ⟨(Nat.le_of_ble_eq_true rfl), (Nat.le_of_ble_eq_true rfl)⟩ ⟨(Nat.le_of_ble_eq_true rfl), (Nat.le_of_ble_eq_true rfl)⟩ (Nat.le_of_ble_eq_true rfl) rfl dX12_copyShore_51 (fun S149 H locs eS149 hQ => ?_)
  have hI := invM_up_10 hI eS149 ⟨_, rfl⟩
  have c150 : S149 10 = .inl (g.2 0, 120, .inl (cpF f146 24 0 2 24)) := up_at eS149 rfl
  refine lv_aload_n hx hb dX12_copyShore_54 rfl (lv_at hl 0 rfl) ?_
  have c151 : S149 0 = .inr (12, [.int v97, .ref (ad 1), .ref (ad 2), .ref (ad 3), .ref (ad 4), .ref (ad 5), .int v98, .int v100, .int v102, .int v104, .int v105, .long w106, .int v107, .int v109, .int v110, .int v111, .ref (ad 6), .ref (ad 7), .ref (ad 8), .ref (ad 9), .ref (ad 10), .ref (ad 11), .ref (ad 12), .ref (ad 13), .ref (ad 14), .ref (ad 15), .int v112, .int v114, .ref (ad 16), .int v116, .int v118, .int v120, .int v122, .int v123, .ref (ad 17), .ref (ad 18), .int v124, .ref (ad 19)]) := (up_ne eS149 (by decide) c145)
  refine xget E hQ 0 (by decide) c151 rfl 21 (by decide) q1489 rfl dX12_copyShore_55 ?_
  refine lv_iconst (v := 3) hx hb dX12_copyShore_58 (by decide) ?_
  refine lv_iload_n hx hb dX12_copyShore_59 rfl (lv_at hl 1 rfl) ?_
  refine lv_iload_n hx hb dX12_copyShore_60 rfl (lv_at hl 2 rfl) ?_
  obtain ⟨f152, c153, b154⟩ := invM_11 hI
  refine xcSv E hs hQ hml hl.1 (uCopyRow l g ad 20 hD S149 11 (by decide) 15 (by decide) f152 3 0 2 (by decide) (by decide) (by decide) c153) mX12_copyRow q1743 rfl ⟨(Nat.le_of_ble_eq_true rfl), (Nat.le_of_ble_eq_true rfl)⟩ ⟨(Nat.le_of_ble_eq_true rfl), (Nat.le_of_ble_eq_true rfl)⟩ (Nat.le_of_ble_eq_true rfl) rfl dX12_copyShore_61 (fun S155 H locs eS155 hQ => ?_)
  have hI := invM_up_11 hI eS155 ⟨_, rfl, cp_b b154⟩
  have b157 : ∀ j, Bd ((cpF f152 3 0 2 3) j) (0) (11) := cp_b b154
  have c156 : S155 11 = .inl (g.2 0, 15, .inl (cpF f152 3 0 2 3)) := up_at eS155 rfl
  refine lv_aload_n hx hb dX12_copyShore_64 rfl (lv_at hl 0 rfl) ?_
  have c158 : S155 0 = .inr (12, [.int v97, .ref (ad 1), .ref (ad 2), .ref (ad 3), .ref (ad 4), .ref (ad 5), .int v98, .int v100, .int v102, .int v104, .int v105, .long w106, .int v107, .int v109, .int v110, .int v111, .ref (ad 6), .ref (ad 7), .ref (ad 8), .ref (ad 9), .ref (ad 10), .ref (ad 11), .ref (ad 12), .ref (ad 13), .ref (ad 14), .ref (ad 15), .int v112, .int v114, .ref (ad 16), .int v116, .int v118, .int v120, .int v122, .int v123, .ref (ad 17), .ref (ad 18), .int v124, .ref (ad 19)]) := (up_ne eS155 (by decide) c151)
  refine xget E hQ 0 (by decide) c158 rfl 22 (by decide) q1490 rfl dX12_copyShore_65 ?_
  refine lv_sipush (v := 160) hx hb dX12_copyShore_68 (by decide) ?_
  refine lv_iload_n hx hb dX12_copyShore_71 rfl (lv_at hl 1 rfl) ?_
  refine lv_iload_n hx hb dX12_copyShore_72 rfl (lv_at hl 2 rfl) ?_
  have c159 : S155 12 = .inl (g.2 0, 800, .inl f91) := (up_ne eS155 (by decide) (up_ne eS149 (by decide) (up_ne eS142 (by decide) (up_ne eS138 (by decide) (up_ne eS131 (by decide) (up_ne eS126 (by decide) c92))))))
  refine xcSv E hs hQ hml hl.1 (uCopyRow l g ad 20 hD S155 12 (by decide) 800 (by decide) f91 160 0 2 (by decide) (by decide) (by decide) c159) mX12_copyRow q1743 rfl ⟨(Nat.le_of_ble_eq_true rfl), (Nat.le_of_ble_eq_true rfl)⟩ ⟨(Nat.le_of_ble_eq_true rfl), (Nat.le_of_ble_eq_true rfl)⟩ (Nat.le_of_ble_eq_true rfl) rfl dX12_copyShore_73 (fun S160 H locs eS160 hQ => ?_)
  have hI := invM_up_12 hI eS160 ⟨_, rfl, ⟨cp_m (q := 40) b93.1 (by decide), cp_m (q := 40) b93.2 (by decide)⟩⟩
  have b162 : (∀ j, j % 4 = 1 → Bd ((cpF f91 160 0 2 160) j) (0) (7)) ∧ (∀ j, j % 4 = 2 → Bd ((cpF f91 160 0 2 160) j) (0) (400)) := ⟨cp_m (q := 40) b93.1 (by decide), cp_m (q := 40) b93.2 (by decide)⟩
  have c161 : S160 12 = .inl (g.2 0, 800, .inl (cpF f91 160 0 2 160)) := up_at eS160 rfl
  have q163 : elm (S 7) 0 = v4.toInt := (elm_of c2 0).trans (congrArg Int32.toInt (ee5))
  have c164 : S160 7 = .inl (g.2 0, 50, .inl (cpF f1 10 0 2 10)) := (up_ne eS160 (by decide) (up_ne eS155 (by decide) (up_ne eS149 (by decide) (up_ne eS142 (by decide) (up_ne eS138 (by decide) c132)))))
  have q165 : elm (S160 7) 20 = v4.toInt := (elm_of c164 20).trans (congrArg Int32.toInt (((show cpF f1 10 0 2 10 20 = f1 0 from rfl).trans (ee5))))
  have q166 : elm (S 7) 1 = v10.toInt := (elm_of c2 1).trans (congrArg Int32.toInt (ee11))
  have q167 : elm (S160 7) 21 = v10.toInt := (elm_of c164 21).trans (congrArg Int32.toInt (((show cpF f1 10 0 2 10 21 = f1 1 from rfl).trans (ee11))))
  have q168 : elm (S 7) 3 = v16.toInt := (elm_of c2 3).trans (congrArg Int32.toInt (ee17))
  have q169 : elm (S160 7) 23 = v16.toInt := (elm_of c164 23).trans (congrArg Int32.toInt (((show cpF f1 10 0 2 10 23 = f1 3 from rfl).trans (ee17))))
  have q170 : elm (S 7) 6 = v22.toInt := (elm_of c2 6).trans (congrArg Int32.toInt (ee23))
  have q171 : elm (S160 7) 26 = v22.toInt := (elm_of c164 26).trans (congrArg Int32.toInt (((show cpF f1 10 0 2 10 26 = f1 6 from rfl).trans (ee23))))
  have q172 : elm (S 7) 8 = v28.toInt := (elm_of c2 8).trans (congrArg Int32.toInt (ee29))
  have q173 : elm (S160 7) 28 = v28.toInt := (elm_of c164 28).trans (congrArg Int32.toInt (((show cpF f1 10 0 2 10 28 = f1 8 from rfl).trans (ee29))))
  have q174 : elm (S 7) 9 = v34.toInt := (elm_of c2 9).trans (congrArg Int32.toInt (ee35))
  have q175 : elm (S160 7) 29 = v34.toInt := (elm_of c164 29).trans (congrArg Int32.toInt (((show cpF f1 10 0 2 10 29 = f1 9 from rfl).trans (ee35))))
  have q176 : elm (S160 7) 0 = v4.toInt := (elm_of c164 0).trans (congrArg Int32.toInt (((show cpF f1 10 0 2 10 0 = f1 0 from rfl).trans (ee5))))
  have q177 : elm (S160 7) 1 = v10.toInt := (elm_of c164 1).trans (congrArg Int32.toInt (((show cpF f1 10 0 2 10 1 = f1 1 from rfl).trans (ee11))))
  have q178 : elm (S160 7) 3 = v16.toInt := (elm_of c164 3).trans (congrArg Int32.toInt (((show cpF f1 10 0 2 10 3 = f1 3 from rfl).trans (ee17))))
  have q179 : elm (S160 7) 6 = v22.toInt := (elm_of c164 6).trans (congrArg Int32.toInt (((show cpF f1 10 0 2 10 6 = f1 6 from rfl).trans (ee23))))
  have q180 : elm (S160 7) 8 = v28.toInt := (elm_of c164 8).trans (congrArg Int32.toInt (((show cpF f1 10 0 2 10 8 = f1 8 from rfl).trans (ee29))))
  have q181 : elm (S160 7) 9 = v34.toInt := (elm_of c164 9).trans (congrArg Int32.toInt (((show cpF f1 10 0 2 10 9 = f1 9 from rfl).trans (ee35))))
  have q182 : elm (S 7) 10 = v40.toInt := (elm_of c2 10).trans (congrArg Int32.toInt (ee41))
  have q183 : elm (S160 7) 10 = v40.toInt := (elm_of c164 10).trans (congrArg Int32.toInt (((show cpF f1 10 0 2 10 10 = f1 10 from rfl).trans (ee41))))
  have q184 : elm (S 7) 11 = v43.toInt := (elm_of c2 11).trans (congrArg Int32.toInt (ee44))
  have q185 : elm (S160 7) 11 = v43.toInt := (elm_of c164 11).trans (congrArg Int32.toInt (((show cpF f1 10 0 2 10 11 = f1 11 from rfl).trans (ee44))))
  have q186 : elm (S 7) 13 = v46.toInt := (elm_of c2 13).trans (congrArg Int32.toInt (ee47))
  have q187 : elm (S160 7) 13 = v46.toInt := (elm_of c164 13).trans (congrArg Int32.toInt (((show cpF f1 10 0 2 10 13 = f1 13 from rfl).trans (ee47))))
  have q188 : elm (S 7) 16 = v49.toInt := (elm_of c2 16).trans (congrArg Int32.toInt (ee50))
  have q189 : elm (S160 7) 16 = v49.toInt := (elm_of c164 16).trans (congrArg Int32.toInt (((show cpF f1 10 0 2 10 16 = f1 16 from rfl).trans (ee50))))
  have q190 : elm (S 7) 18 = v52.toInt := (elm_of c2 18).trans (congrArg Int32.toInt (ee53))
  have q191 : elm (S160 7) 18 = v52.toInt := (elm_of c164 18).trans (congrArg Int32.toInt (((show cpF f1 10 0 2 10 18 = f1 18 from rfl).trans (ee53))))
  have q192 : elm (S 7) 19 = v55.toInt := (elm_of c2 19).trans (congrArg Int32.toInt (ee56))
  have q193 : elm (S160 7) 19 = v55.toInt := (elm_of c164 19).trans (congrArg Int32.toInt (((show cpF f1 10 0 2 10 19 = f1 19 from rfl).trans (ee56))))
  have q194 : elm (S 7) 30 = v58.toInt := (elm_of c2 30).trans (congrArg Int32.toInt (ee59))
  have q195 : elm (S160 7) 30 = v58.toInt := (elm_of c164 30).trans (congrArg Int32.toInt (((show cpF f1 10 0 2 10 30 = f1 30 from rfl).trans (ee59))))
  have q196 : elm (S 7) 31 = v61.toInt := (elm_of c2 31).trans (congrArg Int32.toInt (ee62))
  have q197 : elm (S160 7) 31 = v61.toInt := (elm_of c164 31).trans (congrArg Int32.toInt (((show cpF f1 10 0 2 10 31 = f1 31 from rfl).trans (ee62))))
  have q198 : elm (S 7) 33 = v64.toInt := (elm_of c2 33).trans (congrArg Int32.toInt (ee65))
  have q199 : elm (S160 7) 33 = v64.toInt := (elm_of c164 33).trans (congrArg Int32.toInt (((show cpF f1 10 0 2 10 33 = f1 33 from rfl).trans (ee65))))
  have q200 : elm (S 7) 36 = v67.toInt := (elm_of c2 36).trans (congrArg Int32.toInt (ee68))
  have q201 : elm (S160 7) 36 = v67.toInt := (elm_of c164 36).trans (congrArg Int32.toInt (((show cpF f1 10 0 2 10 36 = f1 36 from rfl).trans (ee68))))
  have q202 : elm (S 7) 38 = v70.toInt := (elm_of c2 38).trans (congrArg Int32.toInt (ee71))
  have q203 : elm (S160 7) 38 = v70.toInt := (elm_of c164 38).trans (congrArg Int32.toInt (((show cpF f1 10 0 2 10 38 = f1 38 from rfl).trans (ee71))))
  have q204 : elm (S 7) 39 = v73.toInt := (elm_of c2 39).trans (congrArg Int32.toInt (ee74))
  have q205 : elm (S160 7) 39 = v73.toInt := (elm_of c164 39).trans (congrArg Int32.toInt (((show cpF f1 10 0 2 10 39 = f1 39 from rfl).trans (ee74))))
  have q206 : elm (S 6) 0 = v79.toInt := (elm_of c77 0).trans (congrArg Int32.toInt (ee80))
  have c207 : S160 6 = .inl (g.2 0, 5, .inl (cpF f76 1 0 2 1)) := (up_ne eS160 (by decide) (up_ne eS155 (by decide) (up_ne eS149 (by decide) (up_ne eS142 (by decide) (up_ne eS138 (by decide) (up_ne eS131 (by decide) c127))))))
  have q208 : elm (S160 6) 2 = v79.toInt := (elm_of c207 2).trans (congrArg Int32.toInt (((show cpF f76 1 0 2 1 2 = f76 0 from rfl).trans (ee80))))
  have q209 : elm (S160 6) 0 = v79.toInt := (elm_of c207 0).trans (congrArg Int32.toInt (((show cpF f76 1 0 2 1 0 = f76 0 from rfl).trans (ee80))))
  have q210 : elm (S 6) 1 = v85.toInt := (elm_of c77 1).trans (congrArg Int32.toInt (ee86))
  have q211 : elm (S160 6) 1 = v85.toInt := (elm_of c207 1).trans (congrArg Int32.toInt (((show cpF f76 1 0 2 1 1 = f76 1 from rfl).trans (ee86))))
  have q212 : elm (S 6) 3 = v88.toInt := (elm_of c77 3).trans (congrArg Int32.toInt (ee89))
  have q213 : elm (S160 6) 3 = v88.toInt := (elm_of c207 3).trans (congrArg Int32.toInt (((show cpF f76 1 0 2 1 3 = f76 3 from rfl).trans (ee89))))
  have c214 : S160 9 = .inl (g.2 0, 120, .inl (cpF f94 24 0 2 24)) := (up_ne eS160 (by decide) (up_ne eS155 (by decide) (up_ne eS149 (by decide) c143)))
  exact xrv E hr hlk hQ (⟨hI, (up_o (up_o (up_o (up_o (up_o (up_o (up_o o_refl eS126 (by decide)) eS131 (by decide)) eS138 (by decide)) eS142 (by decide)) eS149 (by decide)) eS155 (by decide)) eS160 (by decide)), ⟨by omega, by omega⟩, ⟨by omega, by omega⟩, ⟨by omega, by omega⟩, ⟨by omega, by omega⟩, ⟨by omega, by omega⟩, ⟨by omega, by omega⟩, ⟨by omega, by omega⟩, ⟨by omega, by omega⟩, ⟨by omega, by omega⟩, ⟨by omega, by omega⟩, ⟨by omega, by omega⟩, ⟨by omega, by omega⟩, ⟨by omega, by omega⟩, ⟨by omega, by omega⟩, ⟨by omega, by omega⟩, ⟨by omega, by omega⟩, ⟨by omega, by omega⟩, ⟨by omega, by omega⟩, ⟨by omega, by omega⟩, ⟨by omega, by omega⟩, ⟨by omega, by omega⟩, ⟨by omega, by omega⟩, ⟨by omega, by omega⟩, ⟨by omega, by omega⟩, ⟨by omega, by omega⟩, ⟨by omega, by omega⟩, ⟨by omega, by omega⟩, ⟨by omega, by omega⟩, (at_cpo c2 c92 c164 c161 b3.2.2.2.2.2.2.2 (by decide) hAT0), (at_cpo c2 c92 c164 c161 b3.2.2.2.2.2.2.2 (by decide) hAT1), (at_cpb c2 c92 c164 c161 b3.2.2.2.2.2.2.2 hAT0), (at_cpo c2 c92 c164 c161 b3.2.2.2.2.2.2.2 (by decide) hAT3), (ht_cpo c2 c95 c164 c214 b3.2.2.2.2.1 (by decide) hHT0), (ht_cpo c2 c95 c164 c214 b3.2.2.2.2.1 (by decide) hHT1), (ht_cpb c2 c95 c164 c214 b3.2.2.2.2.1 hHT0), (ht_cpo c2 c95 c164 c214 b3.2.2.2.2.1 (by decide) hHT3)⟩) dX12_copyShore_76
set_option maxHeartbeats 4000000 in
set_option maxRecDepth 100000 in
theorem gX12_copyShore_0_3 (l : Launch) (g : GG) (ad : Nat → Nat) (hD : Dj ad 20) (S : SS) (hI : InvM g ad S) (hAT0 : ATp (S 7) (S 12) 0) (hAT1 : ATp (S 7) (S 12) 1) (hAT2 : ATp (S 7) (S 12) 2) (hAT3 : ATp (S 7) (S 12) 3) (hHT0 : HTp (S 7) (S 9) 0) (hHT1 : HTp (S 7) (S 9) 1) (hHT2 : HTp (S 7) (S 9) 2) (hHT3 : HTp (S 7) (S 9) 3) : Met l yX12_copyShore (wG (.code yX12_copyShore cX12_copyShore 3 none)) (Rm 1) (XPre g ad 20 S [.ref (ad 0), .int 0, .int 3]) (va_Qv (fun S' => InvM g ad S' ∧ (∀ j, j ∉ ([6, 7, 8, 9, 10, 11, 12] : List Nat) → S' j = S j) ∧ (0 ≤ elm (S 7) 0 + (-1) * elm (S' 7) 30 ∧ 0 ≤ elm (S' 7) 30 + (-1) * elm (S 7) 0) ∧ (0 ≤ elm (S 7) 1 + (-1) * elm (S' 7) 31 ∧ 0 ≤ elm (S' 7) 31 + (-1) * elm (S 7) 1) ∧ (0 ≤ elm (S 7) 3 + (-1) * elm (S' 7) 33 ∧ 0 ≤ elm (S' 7) 33 + (-1) * elm (S 7) 3) ∧ (0 ≤ elm (S 7) 6 + (-1) * elm (S' 7) 36 ∧ 0 ≤ elm (S' 7) 36 + (-1) * elm (S 7) 6) ∧ (0 ≤ elm (S 7) 8 + (-1) * elm (S' 7) 38 ∧ 0 ≤ elm (S' 7) 38 + (-1) * elm (S 7) 8) ∧ (0 ≤ elm (S 7) 9 + (-1) * elm (S' 7) 39 ∧ 0 ≤ elm (S' 7) 39 + (-1) * elm (S 7) 9) ∧ (0 ≤ elm (S 7) 0 + (-1) * elm (S' 7) 0 ∧ 0 ≤ elm (S' 7) 0 + (-1) * elm (S 7) 0) ∧ (0 ≤ elm (S 7) 1 + (-1) * elm (S' 7) 1 ∧ 0 ≤ elm (S' 7) 1 + (-1) * elm (S 7) 1) ∧ (0 ≤ elm (S 7) 3 + (-1) * elm (S' 7) 3 ∧ 0 ≤ elm (S' 7) 3 + (-1) * elm (S 7) 3) ∧ (0 ≤ elm (S 7) 6 + (-1) * elm (S' 7) 6 ∧ 0 ≤ elm (S' 7) 6 + (-1) * elm (S 7) 6) ∧ (0 ≤ elm (S 7) 8 + (-1) * elm (S' 7) 8 ∧ 0 ≤ elm (S' 7) 8 + (-1) * elm (S 7) 8) ∧ (0 ≤ elm (S 7) 9 + (-1) * elm (S' 7) 9 ∧ 0 ≤ elm (S' 7) 9 + (-1) * elm (S 7) 9) ∧ (0 ≤ elm (S 7) 10 + (-1) * elm (S' 7) 10 ∧ 0 ≤ elm (S' 7) 10 + (-1) * elm (S 7) 10) ∧ (0 ≤ elm (S 7) 11 + (-1) * elm (S' 7) 11 ∧ 0 ≤ elm (S' 7) 11 + (-1) * elm (S 7) 11) ∧ (0 ≤ elm (S 7) 13 + (-1) * elm (S' 7) 13 ∧ 0 ≤ elm (S' 7) 13 + (-1) * elm (S 7) 13) ∧ (0 ≤ elm (S 7) 16 + (-1) * elm (S' 7) 16 ∧ 0 ≤ elm (S' 7) 16 + (-1) * elm (S 7) 16) ∧ (0 ≤ elm (S 7) 18 + (-1) * elm (S' 7) 18 ∧ 0 ≤ elm (S' 7) 18 + (-1) * elm (S 7) 18) ∧ (0 ≤ elm (S 7) 19 + (-1) * elm (S' 7) 19 ∧ 0 ≤ elm (S' 7) 19 + (-1) * elm (S 7) 19) ∧ (0 ≤ elm (S 7) 20 + (-1) * elm (S' 7) 20 ∧ 0 ≤ elm (S' 7) 20 + (-1) * elm (S 7) 20) ∧ (0 ≤ elm (S 7) 21 + (-1) * elm (S' 7) 21 ∧ 0 ≤ elm (S' 7) 21 + (-1) * elm (S 7) 21) ∧ (0 ≤ elm (S 7) 23 + (-1) * elm (S' 7) 23 ∧ 0 ≤ elm (S' 7) 23 + (-1) * elm (S 7) 23) ∧ (0 ≤ elm (S 7) 26 + (-1) * elm (S' 7) 26 ∧ 0 ≤ elm (S' 7) 26 + (-1) * elm (S 7) 26) ∧ (0 ≤ elm (S 7) 28 + (-1) * elm (S' 7) 28 ∧ 0 ≤ elm (S' 7) 28 + (-1) * elm (S 7) 28) ∧ (0 ≤ elm (S 7) 29 + (-1) * elm (S' 7) 29 ∧ 0 ≤ elm (S' 7) 29 + (-1) * elm (S 7) 29) ∧ (0 ≤ elm (S 6) 0 + (-1) * elm (S' 6) 3 ∧ 0 ≤ elm (S' 6) 3 + (-1) * elm (S 6) 0) ∧ (0 ≤ elm (S 6) 0 + (-1) * elm (S' 6) 0 ∧ 0 ≤ elm (S' 6) 0 + (-1) * elm (S 6) 0) ∧ (0 ≤ elm (S 6) 1 + (-1) * elm (S' 6) 1 ∧ 0 ≤ elm (S' 6) 1 + (-1) * elm (S 6) 1) ∧ (0 ≤ elm (S 6) 2 + (-1) * elm (S' 6) 2 ∧ 0 ≤ elm (S' 6) 2 + (-1) * elm (S 6) 2) ∧ (ATp (S' 7) (S' 12) 0) ∧ (ATp (S' 7) (S' 12) 1) ∧ (ATp (S' 7) (S' 12) 2) ∧ (ATp (S' 7) (S' 12) 3) ∧ (HTp (S' 7) (S' 9) 0) ∧ (HTp (S' 7) (S' 9) 1) ∧ (HTp (S' 7) (S' 9) 2) ∧ (HTp (S' 7) (S' 9) 3)) (QB g ad 20) (FA ad 20)) 0 0 (FA ad 20) := by
  refine xmet cX12_copyShore "EbbWreckModel" (by decide) rfl (Nat.le_of_ble_eq_true rfl) (fun p e s m below meth c E hr hlk hml hQ ls hl => ?_)
  have hx := E.1
  have hb := E.2.1
  have hs : Sp ad 20 (FA ad 20) := Sp.fa hD
  have hl : lv_has ls 3 [(0, .ref (ad 0)), (1, .int 0), (2, .int 3)] := hl
  obtain ⟨f1, c2, b3⟩ := invM_7 hI
  obtain ⟨v4, ee5⟩ : ∃ z : Int32, f1 0 = z := ⟨_, rfl⟩
  have b6 : Bd v4 (0) (12) := (by rw [← ee5]; exact b3.1 0 (by decide))
  obtain ⟨v7, ee8⟩ : ∃ z : Int32, f1 30 = z := ⟨_, rfl⟩
  have b9 : Bd v7 (0) (12) := (by rw [← ee8]; exact b3.1 30 (by decide))
  obtain ⟨v10, ee11⟩ : ∃ z : Int32, f1 1 = z := ⟨_, rfl⟩
  have b12 : Bd v10 (0) (12) := (by rw [← ee11]; exact b3.2.1 1 (by decide))
  obtain ⟨v13, ee14⟩ : ∃ z : Int32, f1 31 = z := ⟨_, rfl⟩
  have b15 : Bd v13 (0) (12) := (by rw [← ee14]; exact b3.2.1 31 (by decide))
  obtain ⟨v16, ee17⟩ : ∃ z : Int32, f1 3 = z := ⟨_, rfl⟩
  have b18 : Bd v16 (0) (12) := (by rw [← ee17]; exact b3.2.2.2.1 3 (by decide))
  obtain ⟨v19, ee20⟩ : ∃ z : Int32, f1 33 = z := ⟨_, rfl⟩
  have b21 : Bd v19 (0) (12) := (by rw [← ee20]; exact b3.2.2.2.1 33 (by decide))
  obtain ⟨v22, ee23⟩ : ∃ z : Int32, f1 6 = z := ⟨_, rfl⟩
  have b24 : Bd v22 (0) (8) := (by rw [← ee23]; exact b3.2.2.2.2.1 6 (by decide))
  obtain ⟨v25, ee26⟩ : ∃ z : Int32, f1 36 = z := ⟨_, rfl⟩
  have b27 : Bd v25 (0) (8) := (by rw [← ee26]; exact b3.2.2.2.2.1 36 (by decide))
  obtain ⟨v28, ee29⟩ : ∃ z : Int32, f1 8 = z := ⟨_, rfl⟩
  have b30 : Bd v28 (0) (3) := (by rw [← ee29]; exact b3.2.2.2.2.2.2.1 8 (by decide))
  obtain ⟨v31, ee32⟩ : ∃ z : Int32, f1 38 = z := ⟨_, rfl⟩
  have b33 : Bd v31 (0) (3) := (by rw [← ee32]; exact b3.2.2.2.2.2.2.1 38 (by decide))
  obtain ⟨v34, ee35⟩ : ∃ z : Int32, f1 9 = z := ⟨_, rfl⟩
  have b36 : Bd v34 (0) (40) := (by rw [← ee35]; exact b3.2.2.2.2.2.2.2 9 (by decide))
  obtain ⟨v37, ee38⟩ : ∃ z : Int32, f1 39 = z := ⟨_, rfl⟩
  have b39 : Bd v37 (0) (40) := (by rw [← ee38]; exact b3.2.2.2.2.2.2.2 39 (by decide))
  obtain ⟨v40, ee41⟩ : ∃ z : Int32, f1 10 = z := ⟨_, rfl⟩
  have b42 : Bd v40 (0) (12) := (by rw [← ee41]; exact b3.1 10 (by decide))
  obtain ⟨v43, ee44⟩ : ∃ z : Int32, f1 11 = z := ⟨_, rfl⟩
  have b45 : Bd v43 (0) (12) := (by rw [← ee44]; exact b3.2.1 11 (by decide))
  obtain ⟨v46, ee47⟩ : ∃ z : Int32, f1 13 = z := ⟨_, rfl⟩
  have b48 : Bd v46 (0) (12) := (by rw [← ee47]; exact b3.2.2.2.1 13 (by decide))
  obtain ⟨v49, ee50⟩ : ∃ z : Int32, f1 16 = z := ⟨_, rfl⟩
  have b51 : Bd v49 (0) (8) := (by rw [← ee50]; exact b3.2.2.2.2.1 16 (by decide))
  obtain ⟨v52, ee53⟩ : ∃ z : Int32, f1 18 = z := ⟨_, rfl⟩
  have b54 : Bd v52 (0) (3) := (by rw [← ee53]; exact b3.2.2.2.2.2.2.1 18 (by decide))
  obtain ⟨v55, ee56⟩ : ∃ z : Int32, f1 19 = z := ⟨_, rfl⟩
  have b57 : Bd v55 (0) (40) := (by rw [← ee56]; exact b3.2.2.2.2.2.2.2 19 (by decide))
  obtain ⟨v58, ee59⟩ : ∃ z : Int32, f1 20 = z := ⟨_, rfl⟩
  have b60 : Bd v58 (0) (12) := (by rw [← ee59]; exact b3.1 20 (by decide))
  obtain ⟨v61, ee62⟩ : ∃ z : Int32, f1 21 = z := ⟨_, rfl⟩
  have b63 : Bd v61 (0) (12) := (by rw [← ee62]; exact b3.2.1 21 (by decide))
  obtain ⟨v64, ee65⟩ : ∃ z : Int32, f1 23 = z := ⟨_, rfl⟩
  have b66 : Bd v64 (0) (12) := (by rw [← ee65]; exact b3.2.2.2.1 23 (by decide))
  obtain ⟨v67, ee68⟩ : ∃ z : Int32, f1 26 = z := ⟨_, rfl⟩
  have b69 : Bd v67 (0) (8) := (by rw [← ee68]; exact b3.2.2.2.2.1 26 (by decide))
  obtain ⟨v70, ee71⟩ : ∃ z : Int32, f1 28 = z := ⟨_, rfl⟩
  have b72 : Bd v70 (0) (3) := (by rw [← ee71]; exact b3.2.2.2.2.2.2.1 28 (by decide))
  obtain ⟨v73, ee74⟩ : ∃ z : Int32, f1 29 = z := ⟨_, rfl⟩
  have b75 : Bd v73 (0) (40) := (by rw [← ee74]; exact b3.2.2.2.2.2.2.2 29 (by decide))
  obtain ⟨f76, c77, b78⟩ := invM_6 hI
  obtain ⟨v79, ee80⟩ : ∃ z : Int32, f76 0 = z := ⟨_, rfl⟩
  have b81 : Bd v79 (0) (40000) := (by rw [← ee80]; exact b78 0)
  obtain ⟨v82, ee83⟩ : ∃ z : Int32, f76 3 = z := ⟨_, rfl⟩
  have b84 : Bd v82 (0) (40000) := (by rw [← ee83]; exact b78 3)
  obtain ⟨v85, ee86⟩ : ∃ z : Int32, f76 1 = z := ⟨_, rfl⟩
  have b87 : Bd v85 (0) (40000) := (by rw [← ee86]; exact b78 1)
  obtain ⟨v88, ee89⟩ : ∃ z : Int32, f76 2 = z := ⟨_, rfl⟩
  have b90 : Bd v88 (0) (40000) := (by rw [← ee89]; exact b78 2)
  obtain ⟨f91, c92, b93⟩ := invM_12 hI
  obtain ⟨f94, c95, b96⟩ := invM_9 hI
  refine lv_aload_n hx hb dX12_copyShore_0 rfl (lv_at hl 0 rfl) ?_
  obtain ⟨v97, v98, v100, v102, v104, v105, w106, v107, v109, v110, v111, v112, v114, v116, v118, v120, v122, v123, v124, c125, b99, b101, b103, b108, b113, b115, b117, b119, b121⟩ := invM_0 hI
  have c125 : S 0 = .inr (12, [.int v97, .ref (ad 1), .ref (ad 2), .ref (ad 3), .ref (ad 4), .ref (ad 5), .int v98, .int v100, .int v102, .int v104, .int v105, .long w106, .int v107, .int v109, .int v110, .int v111, .ref (ad 6), .ref (ad 7), .ref (ad 8), .ref (ad 9), .ref (ad 10), .ref (ad 11), .ref (ad 12), .ref (ad 13), .ref (ad 14), .ref (ad 15), .int v112, .int v114, .ref (ad 16), .int v116, .int v118, .int v120, .int v122, .int v123, .ref (ad 17), .ref (ad 18), .int v124, .ref (ad 19)]) := c125
  refine xget E hQ 0 (by decide) c125 rfl 16 (by decide) q1484 rfl dX12_copyShore_1 ?_
  refine lv_iconst (v := 1) hx hb dX12_copyShore_4 (by decide) ?_
  refine lv_iload_n hx hb dX12_copyShore_5 rfl (lv_at hl 1 rfl) ?_
  refine lv_iload_n hx hb dX12_copyShore_6 rfl (lv_at hl 2 rfl) ?_
  refine xcSv E hs hQ hml hl.1 (uCopyRow l g ad 20 hD S 6 (by decide) 5 (by decide) f76 1 0 3 (by decide) (by decide) (by decide) c77) mX12_copyRow q1743 rfl ⟨(Nat.le_of_ble_eq_true rfl), (Nat.le_of_ble_eq_true rfl)⟩ ⟨(Nat.le_of_ble_eq_true rfl), (Nat.le_of_ble_eq_true rfl)⟩ (Nat.le_of_ble_eq_true rfl) rfl dX12_copyShore_7 (fun S126 H locs eS126 hQ => ?_)
  have hI := invM_up_6 hI eS126 ⟨_, rfl, cp_b b78⟩
  have b128 : ∀ j, Bd ((cpF f76 1 0 3 1) j) (0) (40000) := cp_b b78
  have c127 : S126 6 = .inl (g.2 0, 5, .inl (cpF f76 1 0 3 1)) := up_at eS126 rfl
  refine lv_aload_n hx hb dX12_copyShore_10 rfl (lv_at hl 0 rfl) ?_
  have c129 : S126 0 = .inr (12, [.int v97, .ref (ad 1), .ref (ad 2), .ref (ad 3), .ref (ad 4), .ref (ad 5), .int v98, .int v100, .int v102, .int v104, .int v105, .long w106, .int v107, .int v109, .int v110, .int v111, .ref (ad 6), .ref (ad 7), .ref (ad 8), .ref (ad 9), .ref (ad 10), .ref (ad 11), .ref (ad 12), .ref (ad 13), .ref (ad 14), .ref (ad 15), .int v112, .int v114, .ref (ad 16), .int v116, .int v118, .int v120, .int v122, .int v123, .ref (ad 17), .ref (ad 18), .int v124, .ref (ad 19)]) := (up_ne eS126 (by decide) c125)
  refine xget E hQ 0 (by decide) c129 rfl 17 (by decide) q1485 rfl dX12_copyShore_11 ?_
  refine lv_bipush (v := 10) hx hb dX12_copyShore_14 (by decide) ?_
  refine lv_iload_n hx hb dX12_copyShore_16 rfl (lv_at hl 1 rfl) ?_
  refine lv_iload_n hx hb dX12_copyShore_17 rfl (lv_at hl 2 rfl) ?_
  have c130 : S126 7 = .inl (g.2 0, 50, .inl f1) := (up_ne eS126 (by decide) c2)
  refine xcSv E hs hQ hml hl.1 (uCopyRow l g ad 20 hD S126 7 (by decide) 50 (by decide) f1 10 0 3 (by decide) (by decide) (by decide) c130) mX12_copyRow q1743 rfl ⟨(Nat.le_of_ble_eq_true rfl), (Nat.le_of_ble_eq_true rfl)⟩ ⟨(Nat.le_of_ble_eq_true rfl), (Nat.le_of_ble_eq_true rfl)⟩ (Nat.le_of_ble_eq_true rfl) rfl dX12_copyShore_18 (fun S131 H locs eS131 hQ => ?_)
  have hI := invM_up_7 hI eS131 ⟨_, rfl, ⟨cp_m (q := 1) b3.1 (by decide), cp_m (q := 1) b3.2.1 (by decide), cp_m (q := 1) b3.2.2.1 (by decide), cp_m (q := 1) b3.2.2.2.1 (by decide), cp_m (q := 1) b3.2.2.2.2.1 (by decide), cp_m (q := 1) b3.2.2.2.2.2.1 (by decide), cp_m (q := 1) b3.2.2.2.2.2.2.1 (by decide), cp_m (q := 1) b3.2.2.2.2.2.2.2 (by decide)⟩⟩
  have b133 : (∀ j, j % 10 = 0 → Bd ((cpF f1 10 0 3 10) j) (0) (12)) ∧ (∀ j, j % 10 = 1 → Bd ((cpF f1 10 0 3 10) j) (0) (12)) ∧ (∀ j, j % 10 = 2 → Bd ((cpF f1 10 0 3 10) j) (0) (6)) ∧ (∀ j, j % 10 = 3 → Bd ((cpF f1 10 0 3 10) j) (0) (12)) ∧ (∀ j, j % 10 = 6 → Bd ((cpF f1 10 0 3 10) j) (0) (8)) ∧ (∀ j, j % 10 = 7 → Bd ((cpF f1 10 0 3 10) j) (0) (6)) ∧ (∀ j, j % 10 = 8 → Bd ((cpF f1 10 0 3 10) j) (0) (3)) ∧ (∀ j, j % 10 = 9 → Bd ((cpF f1 10 0 3 10) j) (0) (40)) := ⟨cp_m (q := 1) b3.1 (by decide), cp_m (q := 1) b3.2.1 (by decide), cp_m (q := 1) b3.2.2.1 (by decide), cp_m (q := 1) b3.2.2.2.1 (by decide), cp_m (q := 1) b3.2.2.2.2.1 (by decide), cp_m (q := 1) b3.2.2.2.2.2.1 (by decide), cp_m (q := 1) b3.2.2.2.2.2.2.1 (by decide), cp_m (q := 1) b3.2.2.2.2.2.2.2 (by decide)⟩
  have c132 : S131 7 = .inl (g.2 0, 50, .inl (cpF f1 10 0 3 10)) := up_at eS131 rfl
  refine lv_aload_n hx hb dX12_copyShore_21 rfl (lv_at hl 0 rfl) ?_
  have c134 : S131 0 = .inr (12, [.int v97, .ref (ad 1), .ref (ad 2), .ref (ad 3), .ref (ad 4), .ref (ad 5), .int v98, .int v100, .int v102, .int v104, .int v105, .long w106, .int v107, .int v109, .int v110, .int v111, .ref (ad 6), .ref (ad 7), .ref (ad 8), .ref (ad 9), .ref (ad 10), .ref (ad 11), .ref (ad 12), .ref (ad 13), .ref (ad 14), .ref (ad 15), .int v112, .int v114, .ref (ad 16), .int v116, .int v118, .int v120, .int v122, .int v123, .ref (ad 17), .ref (ad 18), .int v124, .ref (ad 19)]) := (up_ne eS131 (by decide) c129)
  refine xget E hQ 0 (by decide) c134 rfl 18 (by decide) q1486 rfl dX12_copyShore_22 ?_
  refine lv_bipush (v := 24) hx hb dX12_copyShore_25 (by decide) ?_
  refine lv_iload_n hx hb dX12_copyShore_27 rfl (lv_at hl 1 rfl) ?_
  refine lv_iload_n hx hb dX12_copyShore_28 rfl (lv_at hl 2 rfl) ?_
  obtain ⟨f135, c136⟩ := invM_8 hI
  refine xcSv E hs hQ hml hl.1 (uCopyRow l g ad 20 hD S131 8 (by decide) 120 (by decide) f135 24 0 3 (by decide) (by decide) (by decide) c136) mX12_copyRow q1743 rfl ⟨(Nat.le_of_ble_eq_true rfl), (Nat.le_of_ble_eq_true rfl)⟩ ⟨(Nat.le_of_ble_eq_true rfl), (Nat.le_of_ble_eq_true rfl)⟩ (Nat.le_of_ble_eq_true rfl) rfl dX12_copyShore_29 (fun S138 H locs eS138 hQ => ?_)
  have hI := invM_up_8 hI eS138 ⟨_, rfl⟩
  have c139 : S138 8 = .inl (g.2 0, 120, .inl (cpF f135 24 0 3 24)) := up_at eS138 rfl
  refine lv_aload_n hx hb dX12_copyShore_32 rfl (lv_at hl 0 rfl) ?_
  have c140 : S138 0 = .inr (12, [.int v97, .ref (ad 1), .ref (ad 2), .ref (ad 3), .ref (ad 4), .ref (ad 5), .int v98, .int v100, .int v102, .int v104, .int v105, .long w106, .int v107, .int v109, .int v110, .int v111, .ref (ad 6), .ref (ad 7), .ref (ad 8), .ref (ad 9), .ref (ad 10), .ref (ad 11), .ref (ad 12), .ref (ad 13), .ref (ad 14), .ref (ad 15), .int v112, .int v114, .ref (ad 16), .int v116, .int v118, .int v120, .int v122, .int v123, .ref (ad 17), .ref (ad 18), .int v124, .ref (ad 19)]) := (up_ne eS138 (by decide) c134)
  refine xget E hQ 0 (by decide) c140 rfl 19 (by decide) q1487 rfl dX12_copyShore_33 ?_
  refine lv_bipush (v := 24) hx hb dX12_copyShore_36 (by decide) ?_
  refine lv_iload_n hx hb dX12_copyShore_38 rfl (lv_at hl 1 rfl) ?_
  refine lv_iload_n hx hb dX12_copyShore_39 rfl (lv_at hl 2 rfl) ?_
  have c141 : S138 9 = .inl (g.2 0, 120, .inl f94) := (up_ne eS138 (by decide) (up_ne eS131 (by decide) (up_ne eS126 (by decide) c95)))
  refine xcSv E hs hQ hml hl.1 (uCopyRow l g ad 20 hD S138 9 (by decide) 120 (by decide) f94 24 0 3 (by decide) (by decide) (by decide) c141) mX12_copyRow q1743 rfl ⟨(Nat.le_of_ble_eq_true rfl), (Nat.le_of_ble_eq_true rfl)⟩ ⟨(Nat.le_of_ble_eq_true rfl), (Nat.le_of_ble_eq_true rfl)⟩ (Nat.le_of_ble_eq_true rfl) rfl dX12_copyShore_40 (fun S142 H locs eS142 hQ => ?_)
  have hI := invM_up_9 hI eS142 ⟨_, rfl, ⟨cp_m (q := 8) b96.1 (by decide), cp_m (q := 8) b96.2 (by decide)⟩⟩
  have b144 : (∀ j, j % 3 = 1 → Bd ((cpF f94 24 0 3 24) j) (0) (11)) ∧ (∀ j, j % 3 = 2 → Bd ((cpF f94 24 0 3 24) j) (0) (99)) := ⟨cp_m (q := 8) b96.1 (by decide), cp_m (q := 8) b96.2 (by decide)⟩
  have c143 : S142 9 = .inl (g.2 0, 120, .inl (cpF f94 24 0 3 24)) := up_at eS142 rfl
  refine lv_aload_n hx hb dX12_copyShore_43 rfl (lv_at hl 0 rfl) ?_
  have c145 : S142 0 = .inr (12, [.int v97, .ref (ad 1), .ref (ad 2), .ref (ad 3), .ref (ad 4), .ref (ad 5), .int v98, .int v100, .int v102, .int v104, .int v105, .long w106, .int v107, .int v109, .int v110, .int v111, .ref (ad 6), .ref (ad 7), .ref (ad 8), .ref (ad 9), .ref (ad 10), .ref (ad 11), .ref (ad 12), .ref (ad 13), .ref (ad 14), .ref (ad 15), .int v112, .int v114, .ref (ad 16), .int v116, .int v118, .int v120, .int v122, .int v123, .ref (ad 17), .ref (ad 18), .int v124, .ref (ad 19)]) := (up_ne eS142 (by decide) c140)
  refine xget E hQ 0 (by decide) c145 rfl 20 (by decide) q1488 rfl dX12_copyShore_44 ?_
  refine lv_bipush (v := 24) hx hb dX12_copyShore_47 (by decide) ?_
  refine lv_iload_n hx hb dX12_copyShore_49 rfl (lv_at hl 1 rfl) ?_
  refine lv_iload_n hx hb dX12_copyShore_50 rfl (lv_at hl 2 rfl) ?_
  obtain ⟨f146, c147⟩ := invM_10 hI
  refine xcSv E hs hQ hml hl.1 (uCopyRow l g ad 20 hD S142 10 (by decide) 120 (by decide) f146 24 0 3 (by decide) (by decide) (by decide) c147) mX12_copyRow q1743 rfl ⟨(Nat.le_of_ble_eq_true rfl), (Nat.le_of_ble_eq_true rfl)⟩ ⟨(Nat.le_of_ble_eq_true rfl), (Nat.le_of_ble_eq_true rfl)⟩ (Nat.le_of_ble_eq_true rfl) rfl dX12_copyShore_51 (fun S149 H locs eS149 hQ => ?_)
  have hI := invM_up_10 hI eS149 ⟨_, rfl⟩
  have c150 : S149 10 = .inl (g.2 0, 120, .inl (cpF f146 24 0 3 24)) := up_at eS149 rfl
  refine lv_aload_n hx hb dX12_copyShore_54 rfl (lv_at hl 0 rfl) ?_
  have c151 : S149 0 = .inr (12, [.int v97, .ref (ad 1), .ref (ad 2), .ref (ad 3), .ref (ad 4), .ref (ad 5), .int v98, .int v100, .int v102, .int v104, .int v105, .long w106, .int v107, .int v109, .int v110, .int v111, .ref (ad 6), .ref (ad 7), .ref (ad 8), .ref (ad 9), .ref (ad 10), .ref (ad 11), .ref (ad 12), .ref (ad 13), .ref (ad 14), .ref (ad 15), .int v112, .int v114, .ref (ad 16), .int v116, .int v118, .int v120, .int v122, .int v123, .ref (ad 17), .ref (ad 18), .int v124, .ref (ad 19)]) := (up_ne eS149 (by decide) c145)
  refine xget E hQ 0 (by decide) c151 rfl 21 (by decide) q1489 rfl dX12_copyShore_55 ?_
  refine lv_iconst (v := 3) hx hb dX12_copyShore_58 (by decide) ?_
  refine lv_iload_n hx hb dX12_copyShore_59 rfl (lv_at hl 1 rfl) ?_
  refine lv_iload_n hx hb dX12_copyShore_60 rfl (lv_at hl 2 rfl) ?_
  obtain ⟨f152, c153, b154⟩ := invM_11 hI
  refine xcSv E hs hQ hml hl.1 (uCopyRow l g ad 20 hD S149 11 (by decide) 15 (by decide) f152 3 0 3 (by decide) (by decide) (by decide) c153) mX12_copyRow q1743 rfl ⟨(Nat.le_of_ble_eq_true rfl), (Nat.le_of_ble_eq_true rfl)⟩ ⟨(Nat.le_of_ble_eq_true rfl), (Nat.le_of_ble_eq_true rfl)⟩ (Nat.le_of_ble_eq_true rfl) rfl dX12_copyShore_61 (fun S155 H locs eS155 hQ => ?_)
  have hI := invM_up_11 hI eS155 ⟨_, rfl, cp_b b154⟩
  have b157 : ∀ j, Bd ((cpF f152 3 0 3 3) j) (0) (11) := cp_b b154
  have c156 : S155 11 = .inl (g.2 0, 15, .inl (cpF f152 3 0 3 3)) := up_at eS155 rfl
  refine lv_aload_n hx hb dX12_copyShore_64 rfl (lv_at hl 0 rfl) ?_
  have c158 : S155 0 = .inr (12, [.int v97, .ref (ad 1), .ref (ad 2), .ref (ad 3), .ref (ad 4), .ref (ad 5), .int v98, .int v100, .int v102, .int v104, .int v105, .long w106, .int v107, .int v109, .int v110, .int v111, .ref (ad 6), .ref (ad 7), .ref (ad 8), .ref (ad 9), .ref (ad 10), .ref (ad 11), .ref (ad 12), .ref (ad 13), .ref (ad 14), .ref (ad 15), .int v112, .int v114, .ref (ad 16), .int v116, .int v118, .int v120, .int v122, .int v123, .ref (ad 17), .ref (ad 18), .int v124, .ref (ad 19)]) := (up_ne eS155 (by decide) c151)
  refine xget E hQ 0 (by decide) c158 rfl 22 (by decide) q1490 rfl dX12_copyShore_65 ?_
  refine lv_sipush (v := 160) hx hb dX12_copyShore_68 (by decide) ?_
  refine lv_iload_n hx hb dX12_copyShore_71 rfl (lv_at hl 1 rfl) ?_
  refine lv_iload_n hx hb dX12_copyShore_72 rfl (lv_at hl 2 rfl) ?_
  have c159 : S155 12 = .inl (g.2 0, 800, .inl f91) := (up_ne eS155 (by decide) (up_ne eS149 (by decide) (up_ne eS142 (by decide) (up_ne eS138 (by decide) (up_ne eS131 (by decide) (up_ne eS126 (by decide) c92))))))
  refine xcSv E hs hQ hml hl.1 (uCopyRow l g ad 20 hD S155 12 (by decide) 800 (by decide) f91 160 0 3 (by decide) (by decide) (by decide) c159) mX12_copyRow q1743 rfl ⟨(Nat.le_of_ble_eq_true rfl), (Nat.le_of_ble_eq_true rfl)⟩ ⟨(Nat.le_of_ble_eq_true rfl), (Nat.le_of_ble_eq_true rfl)⟩ (Nat.le_of_ble_eq_true rfl) rfl dX12_copyShore_73 (fun S160 H locs eS160 hQ => ?_)
  have hI := invM_up_12 hI eS160 ⟨_, rfl, ⟨cp_m (q := 40) b93.1 (by decide), cp_m (q := 40) b93.2 (by decide)⟩⟩
  have b162 : (∀ j, j % 4 = 1 → Bd ((cpF f91 160 0 3 160) j) (0) (7)) ∧ (∀ j, j % 4 = 2 → Bd ((cpF f91 160 0 3 160) j) (0) (400)) := ⟨cp_m (q := 40) b93.1 (by decide), cp_m (q := 40) b93.2 (by decide)⟩
  have c161 : S160 12 = .inl (g.2 0, 800, .inl (cpF f91 160 0 3 160)) := up_at eS160 rfl
  have q163 : elm (S 7) 0 = v4.toInt := (elm_of c2 0).trans (congrArg Int32.toInt (ee5))
  have c164 : S160 7 = .inl (g.2 0, 50, .inl (cpF f1 10 0 3 10)) := (up_ne eS160 (by decide) (up_ne eS155 (by decide) (up_ne eS149 (by decide) (up_ne eS142 (by decide) (up_ne eS138 (by decide) c132)))))
  have q165 : elm (S160 7) 30 = v4.toInt := (elm_of c164 30).trans (congrArg Int32.toInt (((show cpF f1 10 0 3 10 30 = f1 0 from rfl).trans (ee5))))
  have q166 : elm (S 7) 1 = v10.toInt := (elm_of c2 1).trans (congrArg Int32.toInt (ee11))
  have q167 : elm (S160 7) 31 = v10.toInt := (elm_of c164 31).trans (congrArg Int32.toInt (((show cpF f1 10 0 3 10 31 = f1 1 from rfl).trans (ee11))))
  have q168 : elm (S 7) 3 = v16.toInt := (elm_of c2 3).trans (congrArg Int32.toInt (ee17))
  have q169 : elm (S160 7) 33 = v16.toInt := (elm_of c164 33).trans (congrArg Int32.toInt (((show cpF f1 10 0 3 10 33 = f1 3 from rfl).trans (ee17))))
  have q170 : elm (S 7) 6 = v22.toInt := (elm_of c2 6).trans (congrArg Int32.toInt (ee23))
  have q171 : elm (S160 7) 36 = v22.toInt := (elm_of c164 36).trans (congrArg Int32.toInt (((show cpF f1 10 0 3 10 36 = f1 6 from rfl).trans (ee23))))
  have q172 : elm (S 7) 8 = v28.toInt := (elm_of c2 8).trans (congrArg Int32.toInt (ee29))
  have q173 : elm (S160 7) 38 = v28.toInt := (elm_of c164 38).trans (congrArg Int32.toInt (((show cpF f1 10 0 3 10 38 = f1 8 from rfl).trans (ee29))))
  have q174 : elm (S 7) 9 = v34.toInt := (elm_of c2 9).trans (congrArg Int32.toInt (ee35))
  have q175 : elm (S160 7) 39 = v34.toInt := (elm_of c164 39).trans (congrArg Int32.toInt (((show cpF f1 10 0 3 10 39 = f1 9 from rfl).trans (ee35))))
  have q176 : elm (S160 7) 0 = v4.toInt := (elm_of c164 0).trans (congrArg Int32.toInt (((show cpF f1 10 0 3 10 0 = f1 0 from rfl).trans (ee5))))
  have q177 : elm (S160 7) 1 = v10.toInt := (elm_of c164 1).trans (congrArg Int32.toInt (((show cpF f1 10 0 3 10 1 = f1 1 from rfl).trans (ee11))))
  have q178 : elm (S160 7) 3 = v16.toInt := (elm_of c164 3).trans (congrArg Int32.toInt (((show cpF f1 10 0 3 10 3 = f1 3 from rfl).trans (ee17))))
  have q179 : elm (S160 7) 6 = v22.toInt := (elm_of c164 6).trans (congrArg Int32.toInt (((show cpF f1 10 0 3 10 6 = f1 6 from rfl).trans (ee23))))
  have q180 : elm (S160 7) 8 = v28.toInt := (elm_of c164 8).trans (congrArg Int32.toInt (((show cpF f1 10 0 3 10 8 = f1 8 from rfl).trans (ee29))))
  have q181 : elm (S160 7) 9 = v34.toInt := (elm_of c164 9).trans (congrArg Int32.toInt (((show cpF f1 10 0 3 10 9 = f1 9 from rfl).trans (ee35))))
  have q182 : elm (S 7) 10 = v40.toInt := (elm_of c2 10).trans (congrArg Int32.toInt (ee41))
  have q183 : elm (S160 7) 10 = v40.toInt := (elm_of c164 10).trans (congrArg Int32.toInt (((show cpF f1 10 0 3 10 10 = f1 10 from rfl).trans (ee41))))
  have q184 : elm (S 7) 11 = v43.toInt := (elm_of c2 11).trans (congrArg Int32.toInt (ee44))
  have q185 : elm (S160 7) 11 = v43.toInt := (elm_of c164 11).trans (congrArg Int32.toInt (((show cpF f1 10 0 3 10 11 = f1 11 from rfl).trans (ee44))))
  have q186 : elm (S 7) 13 = v46.toInt := (elm_of c2 13).trans (congrArg Int32.toInt (ee47))
  have q187 : elm (S160 7) 13 = v46.toInt := (elm_of c164 13).trans (congrArg Int32.toInt (((show cpF f1 10 0 3 10 13 = f1 13 from rfl).trans (ee47))))
  have q188 : elm (S 7) 16 = v49.toInt := (elm_of c2 16).trans (congrArg Int32.toInt (ee50))
  have q189 : elm (S160 7) 16 = v49.toInt := (elm_of c164 16).trans (congrArg Int32.toInt (((show cpF f1 10 0 3 10 16 = f1 16 from rfl).trans (ee50))))
  have q190 : elm (S 7) 18 = v52.toInt := (elm_of c2 18).trans (congrArg Int32.toInt (ee53))
  have q191 : elm (S160 7) 18 = v52.toInt := (elm_of c164 18).trans (congrArg Int32.toInt (((show cpF f1 10 0 3 10 18 = f1 18 from rfl).trans (ee53))))
  have q192 : elm (S 7) 19 = v55.toInt := (elm_of c2 19).trans (congrArg Int32.toInt (ee56))
  have q193 : elm (S160 7) 19 = v55.toInt := (elm_of c164 19).trans (congrArg Int32.toInt (((show cpF f1 10 0 3 10 19 = f1 19 from rfl).trans (ee56))))
  have q194 : elm (S 7) 20 = v58.toInt := (elm_of c2 20).trans (congrArg Int32.toInt (ee59))
  have q195 : elm (S160 7) 20 = v58.toInt := (elm_of c164 20).trans (congrArg Int32.toInt (((show cpF f1 10 0 3 10 20 = f1 20 from rfl).trans (ee59))))
  have q196 : elm (S 7) 21 = v61.toInt := (elm_of c2 21).trans (congrArg Int32.toInt (ee62))
  have q197 : elm (S160 7) 21 = v61.toInt := (elm_of c164 21).trans (congrArg Int32.toInt (((show cpF f1 10 0 3 10 21 = f1 21 from rfl).trans (ee62))))
  have q198 : elm (S 7) 23 = v64.toInt := (elm_of c2 23).trans (congrArg Int32.toInt (ee65))
  have q199 : elm (S160 7) 23 = v64.toInt := (elm_of c164 23).trans (congrArg Int32.toInt (((show cpF f1 10 0 3 10 23 = f1 23 from rfl).trans (ee65))))
  have q200 : elm (S 7) 26 = v67.toInt := (elm_of c2 26).trans (congrArg Int32.toInt (ee68))
  have q201 : elm (S160 7) 26 = v67.toInt := (elm_of c164 26).trans (congrArg Int32.toInt (((show cpF f1 10 0 3 10 26 = f1 26 from rfl).trans (ee68))))
  have q202 : elm (S 7) 28 = v70.toInt := (elm_of c2 28).trans (congrArg Int32.toInt (ee71))
  have q203 : elm (S160 7) 28 = v70.toInt := (elm_of c164 28).trans (congrArg Int32.toInt (((show cpF f1 10 0 3 10 28 = f1 28 from rfl).trans (ee71))))
  have q204 : elm (S 7) 29 = v73.toInt := (elm_of c2 29).trans (congrArg Int32.toInt (ee74))
  have q205 : elm (S160 7) 29 = v73.toInt := (elm_of c164 29).trans (congrArg Int32.toInt (((show cpF f1 10 0 3 10 29 = f1 29 from rfl).trans (ee74))))
  have q206 : elm (S 6) 0 = v79.toInt := (elm_of c77 0).trans (congrArg Int32.toInt (ee80))
  have c207 : S160 6 = .inl (g.2 0, 5, .inl (cpF f76 1 0 3 1)) := (up_ne eS160 (by decide) (up_ne eS155 (by decide) (up_ne eS149 (by decide) (up_ne eS142 (by decide) (up_ne eS138 (by decide) (up_ne eS131 (by decide) c127))))))
  have q208 : elm (S160 6) 3 = v79.toInt := (elm_of c207 3).trans (congrArg Int32.toInt (((show cpF f76 1 0 3 1 3 = f76 0 from rfl).trans (ee80))))
  have q209 : elm (S160 6) 0 = v79.toInt := (elm_of c207 0).trans (congrArg Int32.toInt (((show cpF f76 1 0 3 1 0 = f76 0 from rfl).trans (ee80))))
  have q210 : elm (S 6) 1 = v85.toInt := (elm_of c77 1).trans (congrArg Int32.toInt (ee86))
  have q211 : elm (S160 6) 1 = v85.toInt := (elm_of c207 1).trans (congrArg Int32.toInt (((show cpF f76 1 0 3 1 1 = f76 1 from rfl).trans (ee86))))
  have q212 : elm (S 6) 2 = v88.toInt := (elm_of c77 2).trans (congrArg Int32.toInt (ee89))
  have q213 : elm (S160 6) 2 = v88.toInt := (elm_of c207 2).trans (congrArg Int32.toInt (((show cpF f76 1 0 3 1 2 = f76 2 from rfl).trans (ee89))))
  have c214 : S160 9 = .inl (g.2 0, 120, .inl (cpF f94 24 0 3 24)) := (up_ne eS160 (by decide) (up_ne eS155 (by decide) (up_ne eS149 (by decide) c143)))
  exact xrv E hr hlk hQ (⟨hI, (up_o (up_o (up_o (up_o (up_o (up_o (up_o o_refl eS126 (by decide)) eS131 (by decide)) eS138 (by decide)) eS142 (by decide)) eS149 (by decide)) eS155 (by decide)) eS160 (by decide)), ⟨by omega, by omega⟩, ⟨by omega, by omega⟩, ⟨by omega, by omega⟩, ⟨by omega, by omega⟩, ⟨by omega, by omega⟩, ⟨by omega, by omega⟩, ⟨by omega, by omega⟩, ⟨by omega, by omega⟩, ⟨by omega, by omega⟩, ⟨by omega, by omega⟩, ⟨by omega, by omega⟩, ⟨by omega, by omega⟩, ⟨by omega, by omega⟩, ⟨by omega, by omega⟩, ⟨by omega, by omega⟩, ⟨by omega, by omega⟩, ⟨by omega, by omega⟩, ⟨by omega, by omega⟩, ⟨by omega, by omega⟩, ⟨by omega, by omega⟩, ⟨by omega, by omega⟩, ⟨by omega, by omega⟩, ⟨by omega, by omega⟩, ⟨by omega, by omega⟩, ⟨by omega, by omega⟩, ⟨by omega, by omega⟩, ⟨by omega, by omega⟩, ⟨by omega, by omega⟩, (at_cpo c2 c92 c164 c161 b3.2.2.2.2.2.2.2 (by decide) hAT0), (at_cpo c2 c92 c164 c161 b3.2.2.2.2.2.2.2 (by decide) hAT1), (at_cpo c2 c92 c164 c161 b3.2.2.2.2.2.2.2 (by decide) hAT2), (at_cpb c2 c92 c164 c161 b3.2.2.2.2.2.2.2 hAT0), (ht_cpo c2 c95 c164 c214 b3.2.2.2.2.1 (by decide) hHT0), (ht_cpo c2 c95 c164 c214 b3.2.2.2.2.1 (by decide) hHT1), (ht_cpo c2 c95 c164 c214 b3.2.2.2.2.1 (by decide) hHT2), (ht_cpb c2 c95 c164 c214 b3.2.2.2.2.1 hHT0)⟩) dX12_copyShore_76
set_option maxHeartbeats 4000000 in
set_option maxRecDepth 100000 in
theorem gX12_copyShore_1_0 (l : Launch) (g : GG) (ad : Nat → Nat) (hD : Dj ad 20) (S : SS) (hI : InvM g ad S) (hAT0 : ATp (S 7) (S 12) 0) (hAT1 : ATp (S 7) (S 12) 1) (hAT2 : ATp (S 7) (S 12) 2) (hAT3 : ATp (S 7) (S 12) 3) (hHT0 : HTp (S 7) (S 9) 0) (hHT1 : HTp (S 7) (S 9) 1) (hHT2 : HTp (S 7) (S 9) 2) (hHT3 : HTp (S 7) (S 9) 3) : Met l yX12_copyShore (wG (.code yX12_copyShore cX12_copyShore 3 none)) (Rm 1) (XPre g ad 20 S [.ref (ad 0), .int 1, .int 0]) (va_Qv (fun S' => InvM g ad S' ∧ (∀ j, j ∉ ([6, 7, 8, 9, 10, 11, 12] : List Nat) → S' j = S j) ∧ (0 ≤ elm (S 7) 10 + (-1) * elm (S' 7) 0 ∧ 0 ≤ elm (S' 7) 0 + (-1) * elm (S 7) 10) ∧ (0 ≤ elm (S 7) 11 + (-1) * elm (S' 7) 1 ∧ 0 ≤ elm (S' 7) 1 + (-1) * elm (S 7) 11) ∧ (0 ≤ elm (S 7) 13 + (-1) * elm (S' 7) 3 ∧ 0 ≤ elm (S' 7) 3 + (-1) * elm (S 7) 13) ∧ (0 ≤ elm (S 7) 16 + (-1) * elm (S' 7) 6 ∧ 0 ≤ elm (S' 7) 6 + (-1) * elm (S 7) 16) ∧ (0 ≤ elm (S 7) 18 + (-1) * elm (S' 7) 8 ∧ 0 ≤ elm (S' 7) 8 + (-1) * elm (S 7) 18) ∧ (0 ≤ elm (S 7) 19 + (-1) * elm (S' 7) 9 ∧ 0 ≤ elm (S' 7) 9 + (-1) * elm (S 7) 19) ∧ (0 ≤ elm (S 7) 10 + (-1) * elm (S' 7) 10 ∧ 0 ≤ elm (S' 7) 10 + (-1) * elm (S 7) 10) ∧ (0 ≤ elm (S 7) 11 + (-1) * elm (S' 7) 11 ∧ 0 ≤ elm (S' 7) 11 + (-1) * elm (S 7) 11) ∧ (0 ≤ elm (S 7) 13 + (-1) * elm (S' 7) 13 ∧ 0 ≤ elm (S' 7) 13 + (-1) * elm (S 7) 13) ∧ (0 ≤ elm (S 7) 16 + (-1) * elm (S' 7) 16 ∧ 0 ≤ elm (S' 7) 16 + (-1) * elm (S 7) 16) ∧ (0 ≤ elm (S 7) 18 + (-1) * elm (S' 7) 18 ∧ 0 ≤ elm (S' 7) 18 + (-1) * elm (S 7) 18) ∧ (0 ≤ elm (S 7) 19 + (-1) * elm (S' 7) 19 ∧ 0 ≤ elm (S' 7) 19 + (-1) * elm (S 7) 19) ∧ (0 ≤ elm (S 7) 20 + (-1) * elm (S' 7) 20 ∧ 0 ≤ elm (S' 7) 20 + (-1) * elm (S 7) 20) ∧ (0 ≤ elm (S 7) 21 + (-1) * elm (S' 7) 21 ∧ 0 ≤ elm (S' 7) 21 + (-1) * elm (S 7) 21) ∧ (0 ≤ elm (S 7) 23 + (-1) * elm (S' 7) 23 ∧ 0 ≤ elm (S' 7) 23 + (-1) * elm (S 7) 23) ∧ (0 ≤ elm (S 7) 26 + (-1) * elm (S' 7) 26 ∧ 0 ≤ elm (S' 7) 26 + (-1) * elm (S 7) 26) ∧ (0 ≤ elm (S 7) 28 + (-1) * elm (S' 7) 28 ∧ 0 ≤ elm (S' 7) 28 + (-1) * elm (S 7) 28) ∧ (0 ≤ elm (S 7) 29 + (-1) * elm (S' 7) 29 ∧ 0 ≤ elm (S' 7) 29 + (-1) * elm (S 7) 29) ∧ (0 ≤ elm (S 7) 30 + (-1) * elm (S' 7) 30 ∧ 0 ≤ elm (S' 7) 30 + (-1) * elm (S 7) 30) ∧ (0 ≤ elm (S 7) 31 + (-1) * elm (S' 7) 31 ∧ 0 ≤ elm (S' 7) 31 + (-1) * elm (S 7) 31) ∧ (0 ≤ elm (S 7) 33 + (-1) * elm (S' 7) 33 ∧ 0 ≤ elm (S' 7) 33 + (-1) * elm (S 7) 33) ∧ (0 ≤ elm (S 7) 36 + (-1) * elm (S' 7) 36 ∧ 0 ≤ elm (S' 7) 36 + (-1) * elm (S 7) 36) ∧ (0 ≤ elm (S 7) 38 + (-1) * elm (S' 7) 38 ∧ 0 ≤ elm (S' 7) 38 + (-1) * elm (S 7) 38) ∧ (0 ≤ elm (S 7) 39 + (-1) * elm (S' 7) 39 ∧ 0 ≤ elm (S' 7) 39 + (-1) * elm (S 7) 39) ∧ (0 ≤ elm (S 6) 1 + (-1) * elm (S' 6) 0 ∧ 0 ≤ elm (S' 6) 0 + (-1) * elm (S 6) 1) ∧ (0 ≤ elm (S 6) 1 + (-1) * elm (S' 6) 1 ∧ 0 ≤ elm (S' 6) 1 + (-1) * elm (S 6) 1) ∧ (0 ≤ elm (S 6) 2 + (-1) * elm (S' 6) 2 ∧ 0 ≤ elm (S' 6) 2 + (-1) * elm (S 6) 2) ∧ (0 ≤ elm (S 6) 3 + (-1) * elm (S' 6) 3 ∧ 0 ≤ elm (S' 6) 3 + (-1) * elm (S 6) 3) ∧ (ATp (S' 7) (S' 12) 0) ∧ (ATp (S' 7) (S' 12) 1) ∧ (ATp (S' 7) (S' 12) 2) ∧ (ATp (S' 7) (S' 12) 3) ∧ (HTp (S' 7) (S' 9) 0) ∧ (HTp (S' 7) (S' 9) 1) ∧ (HTp (S' 7) (S' 9) 2) ∧ (HTp (S' 7) (S' 9) 3)) (QB g ad 20) (FA ad 20)) 0 0 (FA ad 20) := by
  refine xmet cX12_copyShore "EbbWreckModel" (by decide) rfl (Nat.le_of_ble_eq_true rfl) (fun p e s m below meth c E hr hlk hml hQ ls hl => ?_)
  have hx := E.1
  have hb := E.2.1
  have hs : Sp ad 20 (FA ad 20) := Sp.fa hD
  have hl : lv_has ls 3 [(0, .ref (ad 0)), (1, .int 1), (2, .int 0)] := hl
  obtain ⟨f1, c2, b3⟩ := invM_7 hI
  obtain ⟨v4, ee5⟩ : ∃ z : Int32, f1 10 = z := ⟨_, rfl⟩
  have b6 : Bd v4 (0) (12) := (by rw [← ee5]; exact b3.1 10 (by decide))
  obtain ⟨v7, ee8⟩ : ∃ z : Int32, f1 0 = z := ⟨_, rfl⟩
  have b9 : Bd v7 (0) (12) := (by rw [← ee8]; exact b3.1 0 (by decide))
  obtain ⟨v10, ee11⟩ : ∃ z : Int32, f1 11 = z := ⟨_, rfl⟩
  have b12 : Bd v10 (0) (12) := (by rw [← ee11]; exact b3.2.1 11 (by decide))
  obtain ⟨v13, ee14⟩ : ∃ z : Int32, f1 1 = z := ⟨_, rfl⟩
  have b15 : Bd v13 (0) (12) := (by rw [← ee14]; exact b3.2.1 1 (by decide))
  obtain ⟨v16, ee17⟩ : ∃ z : Int32, f1 13 = z := ⟨_, rfl⟩
  have b18 : Bd v16 (0) (12) := (by rw [← ee17]; exact b3.2.2.2.1 13 (by decide))
  obtain ⟨v19, ee20⟩ : ∃ z : Int32, f1 3 = z := ⟨_, rfl⟩
  have b21 : Bd v19 (0) (12) := (by rw [← ee20]; exact b3.2.2.2.1 3 (by decide))
  obtain ⟨v22, ee23⟩ : ∃ z : Int32, f1 16 = z := ⟨_, rfl⟩
  have b24 : Bd v22 (0) (8) := (by rw [← ee23]; exact b3.2.2.2.2.1 16 (by decide))
  obtain ⟨v25, ee26⟩ : ∃ z : Int32, f1 6 = z := ⟨_, rfl⟩
  have b27 : Bd v25 (0) (8) := (by rw [← ee26]; exact b3.2.2.2.2.1 6 (by decide))
  obtain ⟨v28, ee29⟩ : ∃ z : Int32, f1 18 = z := ⟨_, rfl⟩
  have b30 : Bd v28 (0) (3) := (by rw [← ee29]; exact b3.2.2.2.2.2.2.1 18 (by decide))
  obtain ⟨v31, ee32⟩ : ∃ z : Int32, f1 8 = z := ⟨_, rfl⟩
  have b33 : Bd v31 (0) (3) := (by rw [← ee32]; exact b3.2.2.2.2.2.2.1 8 (by decide))
  obtain ⟨v34, ee35⟩ : ∃ z : Int32, f1 19 = z := ⟨_, rfl⟩
  have b36 : Bd v34 (0) (40) := (by rw [← ee35]; exact b3.2.2.2.2.2.2.2 19 (by decide))
  obtain ⟨v37, ee38⟩ : ∃ z : Int32, f1 9 = z := ⟨_, rfl⟩
  have b39 : Bd v37 (0) (40) := (by rw [← ee38]; exact b3.2.2.2.2.2.2.2 9 (by decide))
  obtain ⟨v40, ee41⟩ : ∃ z : Int32, f1 20 = z := ⟨_, rfl⟩
  have b42 : Bd v40 (0) (12) := (by rw [← ee41]; exact b3.1 20 (by decide))
  obtain ⟨v43, ee44⟩ : ∃ z : Int32, f1 21 = z := ⟨_, rfl⟩
  have b45 : Bd v43 (0) (12) := (by rw [← ee44]; exact b3.2.1 21 (by decide))
  obtain ⟨v46, ee47⟩ : ∃ z : Int32, f1 23 = z := ⟨_, rfl⟩
  have b48 : Bd v46 (0) (12) := (by rw [← ee47]; exact b3.2.2.2.1 23 (by decide))
  obtain ⟨v49, ee50⟩ : ∃ z : Int32, f1 26 = z := ⟨_, rfl⟩
  have b51 : Bd v49 (0) (8) := (by rw [← ee50]; exact b3.2.2.2.2.1 26 (by decide))
  obtain ⟨v52, ee53⟩ : ∃ z : Int32, f1 28 = z := ⟨_, rfl⟩
  have b54 : Bd v52 (0) (3) := (by rw [← ee53]; exact b3.2.2.2.2.2.2.1 28 (by decide))
  obtain ⟨v55, ee56⟩ : ∃ z : Int32, f1 29 = z := ⟨_, rfl⟩
  have b57 : Bd v55 (0) (40) := (by rw [← ee56]; exact b3.2.2.2.2.2.2.2 29 (by decide))
  obtain ⟨v58, ee59⟩ : ∃ z : Int32, f1 30 = z := ⟨_, rfl⟩
  have b60 : Bd v58 (0) (12) := (by rw [← ee59]; exact b3.1 30 (by decide))
  obtain ⟨v61, ee62⟩ : ∃ z : Int32, f1 31 = z := ⟨_, rfl⟩
  have b63 : Bd v61 (0) (12) := (by rw [← ee62]; exact b3.2.1 31 (by decide))
  obtain ⟨v64, ee65⟩ : ∃ z : Int32, f1 33 = z := ⟨_, rfl⟩
  have b66 : Bd v64 (0) (12) := (by rw [← ee65]; exact b3.2.2.2.1 33 (by decide))
  obtain ⟨v67, ee68⟩ : ∃ z : Int32, f1 36 = z := ⟨_, rfl⟩
  have b69 : Bd v67 (0) (8) := (by rw [← ee68]; exact b3.2.2.2.2.1 36 (by decide))
  obtain ⟨v70, ee71⟩ : ∃ z : Int32, f1 38 = z := ⟨_, rfl⟩
  have b72 : Bd v70 (0) (3) := (by rw [← ee71]; exact b3.2.2.2.2.2.2.1 38 (by decide))
  obtain ⟨v73, ee74⟩ : ∃ z : Int32, f1 39 = z := ⟨_, rfl⟩
  have b75 : Bd v73 (0) (40) := (by rw [← ee74]; exact b3.2.2.2.2.2.2.2 39 (by decide))
  obtain ⟨f76, c77, b78⟩ := invM_6 hI
  obtain ⟨v79, ee80⟩ : ∃ z : Int32, f76 1 = z := ⟨_, rfl⟩
  have b81 : Bd v79 (0) (40000) := (by rw [← ee80]; exact b78 1)
  obtain ⟨v82, ee83⟩ : ∃ z : Int32, f76 0 = z := ⟨_, rfl⟩
  have b84 : Bd v82 (0) (40000) := (by rw [← ee83]; exact b78 0)
  obtain ⟨v85, ee86⟩ : ∃ z : Int32, f76 2 = z := ⟨_, rfl⟩
  have b87 : Bd v85 (0) (40000) := (by rw [← ee86]; exact b78 2)
  obtain ⟨v88, ee89⟩ : ∃ z : Int32, f76 3 = z := ⟨_, rfl⟩
  have b90 : Bd v88 (0) (40000) := (by rw [← ee89]; exact b78 3)
  obtain ⟨f91, c92, b93⟩ := invM_12 hI
  obtain ⟨f94, c95, b96⟩ := invM_9 hI
  refine lv_aload_n hx hb dX12_copyShore_0 rfl (lv_at hl 0 rfl) ?_
  obtain ⟨v97, v98, v100, v102, v104, v105, w106, v107, v109, v110, v111, v112, v114, v116, v118, v120, v122, v123, v124, c125, b99, b101, b103, b108, b113, b115, b117, b119, b121⟩ := invM_0 hI
  have c125 : S 0 = .inr (12, [.int v97, .ref (ad 1), .ref (ad 2), .ref (ad 3), .ref (ad 4), .ref (ad 5), .int v98, .int v100, .int v102, .int v104, .int v105, .long w106, .int v107, .int v109, .int v110, .int v111, .ref (ad 6), .ref (ad 7), .ref (ad 8), .ref (ad 9), .ref (ad 10), .ref (ad 11), .ref (ad 12), .ref (ad 13), .ref (ad 14), .ref (ad 15), .int v112, .int v114, .ref (ad 16), .int v116, .int v118, .int v120, .int v122, .int v123, .ref (ad 17), .ref (ad 18), .int v124, .ref (ad 19)]) := c125
  refine xget E hQ 0 (by decide) c125 rfl 16 (by decide) q1484 rfl dX12_copyShore_1 ?_
  refine lv_iconst (v := 1) hx hb dX12_copyShore_4 (by decide) ?_
  refine lv_iload_n hx hb dX12_copyShore_5 rfl (lv_at hl 1 rfl) ?_
  refine lv_iload_n hx hb dX12_copyShore_6 rfl (lv_at hl 2 rfl) ?_
  refine xcSv E hs hQ hml hl.1 (uCopyRow l g ad 20 hD S 6 (by decide) 5 (by decide) f76 1 1 0 (by decide) (by decide) (by decide) c77) mX12_copyRow q1743 rfl ⟨(Nat.le_of_ble_eq_true rfl), (Nat.le_of_ble_eq_true rfl)⟩ ⟨(Nat.le_of_ble_eq_true rfl), (Nat.le_of_ble_eq_true rfl)⟩ (Nat.le_of_ble_eq_true rfl) rfl dX12_copyShore_7 (fun S126 H locs eS126 hQ => ?_)
  have hI := invM_up_6 hI eS126 ⟨_, rfl, cp_b b78⟩
  have b128 : ∀ j, Bd ((cpF f76 1 1 0 1) j) (0) (40000) := cp_b b78
  have c127 : S126 6 = .inl (g.2 0, 5, .inl (cpF f76 1 1 0 1)) := up_at eS126 rfl
  refine lv_aload_n hx hb dX12_copyShore_10 rfl (lv_at hl 0 rfl) ?_
  have c129 : S126 0 = .inr (12, [.int v97, .ref (ad 1), .ref (ad 2), .ref (ad 3), .ref (ad 4), .ref (ad 5), .int v98, .int v100, .int v102, .int v104, .int v105, .long w106, .int v107, .int v109, .int v110, .int v111, .ref (ad 6), .ref (ad 7), .ref (ad 8), .ref (ad 9), .ref (ad 10), .ref (ad 11), .ref (ad 12), .ref (ad 13), .ref (ad 14), .ref (ad 15), .int v112, .int v114, .ref (ad 16), .int v116, .int v118, .int v120, .int v122, .int v123, .ref (ad 17), .ref (ad 18), .int v124, .ref (ad 19)]) := (up_ne eS126 (by decide) c125)
  refine xget E hQ 0 (by decide) c129 rfl 17 (by decide) q1485 rfl dX12_copyShore_11 ?_
  refine lv_bipush (v := 10) hx hb dX12_copyShore_14 (by decide) ?_
  refine lv_iload_n hx hb dX12_copyShore_16 rfl (lv_at hl 1 rfl) ?_
  refine lv_iload_n hx hb dX12_copyShore_17 rfl (lv_at hl 2 rfl) ?_
  have c130 : S126 7 = .inl (g.2 0, 50, .inl f1) := (up_ne eS126 (by decide) c2)
  refine xcSv E hs hQ hml hl.1 (uCopyRow l g ad 20 hD S126 7 (by decide) 50 (by decide) f1 10 1 0 (by decide) (by decide) (by decide) c130) mX12_copyRow q1743 rfl ⟨(Nat.le_of_ble_eq_true rfl), (Nat.le_of_ble_eq_true rfl)⟩ ⟨(Nat.le_of_ble_eq_true rfl), (Nat.le_of_ble_eq_true rfl)⟩ (Nat.le_of_ble_eq_true rfl) rfl dX12_copyShore_18 (fun S131 H locs eS131 hQ => ?_)
  have hI := invM_up_7 hI eS131 ⟨_, rfl, ⟨cp_m (q := 1) b3.1 (by decide), cp_m (q := 1) b3.2.1 (by decide), cp_m (q := 1) b3.2.2.1 (by decide), cp_m (q := 1) b3.2.2.2.1 (by decide), cp_m (q := 1) b3.2.2.2.2.1 (by decide), cp_m (q := 1) b3.2.2.2.2.2.1 (by decide), cp_m (q := 1) b3.2.2.2.2.2.2.1 (by decide), cp_m (q := 1) b3.2.2.2.2.2.2.2 (by decide)⟩⟩
  have b133 : (∀ j, j % 10 = 0 → Bd ((cpF f1 10 1 0 10) j) (0) (12)) ∧ (∀ j, j % 10 = 1 → Bd ((cpF f1 10 1 0 10) j) (0) (12)) ∧ (∀ j, j % 10 = 2 → Bd ((cpF f1 10 1 0 10) j) (0) (6)) ∧ (∀ j, j % 10 = 3 → Bd ((cpF f1 10 1 0 10) j) (0) (12)) ∧ (∀ j, j % 10 = 6 → Bd ((cpF f1 10 1 0 10) j) (0) (8)) ∧ (∀ j, j % 10 = 7 → Bd ((cpF f1 10 1 0 10) j) (0) (6)) ∧ (∀ j, j % 10 = 8 → Bd ((cpF f1 10 1 0 10) j) (0) (3)) ∧ (∀ j, j % 10 = 9 → Bd ((cpF f1 10 1 0 10) j) (0) (40)) := ⟨cp_m (q := 1) b3.1 (by decide), cp_m (q := 1) b3.2.1 (by decide), cp_m (q := 1) b3.2.2.1 (by decide), cp_m (q := 1) b3.2.2.2.1 (by decide), cp_m (q := 1) b3.2.2.2.2.1 (by decide), cp_m (q := 1) b3.2.2.2.2.2.1 (by decide), cp_m (q := 1) b3.2.2.2.2.2.2.1 (by decide), cp_m (q := 1) b3.2.2.2.2.2.2.2 (by decide)⟩
  have c132 : S131 7 = .inl (g.2 0, 50, .inl (cpF f1 10 1 0 10)) := up_at eS131 rfl
  refine lv_aload_n hx hb dX12_copyShore_21 rfl (lv_at hl 0 rfl) ?_
  have c134 : S131 0 = .inr (12, [.int v97, .ref (ad 1), .ref (ad 2), .ref (ad 3), .ref (ad 4), .ref (ad 5), .int v98, .int v100, .int v102, .int v104, .int v105, .long w106, .int v107, .int v109, .int v110, .int v111, .ref (ad 6), .ref (ad 7), .ref (ad 8), .ref (ad 9), .ref (ad 10), .ref (ad 11), .ref (ad 12), .ref (ad 13), .ref (ad 14), .ref (ad 15), .int v112, .int v114, .ref (ad 16), .int v116, .int v118, .int v120, .int v122, .int v123, .ref (ad 17), .ref (ad 18), .int v124, .ref (ad 19)]) := (up_ne eS131 (by decide) c129)
  refine xget E hQ 0 (by decide) c134 rfl 18 (by decide) q1486 rfl dX12_copyShore_22 ?_
  refine lv_bipush (v := 24) hx hb dX12_copyShore_25 (by decide) ?_
  refine lv_iload_n hx hb dX12_copyShore_27 rfl (lv_at hl 1 rfl) ?_
  refine lv_iload_n hx hb dX12_copyShore_28 rfl (lv_at hl 2 rfl) ?_
  obtain ⟨f135, c136⟩ := invM_8 hI
  refine xcSv E hs hQ hml hl.1 (uCopyRow l g ad 20 hD S131 8 (by decide) 120 (by decide) f135 24 1 0 (by decide) (by decide) (by decide) c136) mX12_copyRow q1743 rfl ⟨(Nat.le_of_ble_eq_true rfl), (Nat.le_of_ble_eq_true rfl)⟩ ⟨(Nat.le_of_ble_eq_true rfl), (Nat.le_of_ble_eq_true rfl)⟩ (Nat.le_of_ble_eq_true rfl) rfl dX12_copyShore_29 (fun S138 H locs eS138 hQ => ?_)
  have hI := invM_up_8 hI eS138 ⟨_, rfl⟩
  have c139 : S138 8 = .inl (g.2 0, 120, .inl (cpF f135 24 1 0 24)) := up_at eS138 rfl
  refine lv_aload_n hx hb dX12_copyShore_32 rfl (lv_at hl 0 rfl) ?_
  have c140 : S138 0 = .inr (12, [.int v97, .ref (ad 1), .ref (ad 2), .ref (ad 3), .ref (ad 4), .ref (ad 5), .int v98, .int v100, .int v102, .int v104, .int v105, .long w106, .int v107, .int v109, .int v110, .int v111, .ref (ad 6), .ref (ad 7), .ref (ad 8), .ref (ad 9), .ref (ad 10), .ref (ad 11), .ref (ad 12), .ref (ad 13), .ref (ad 14), .ref (ad 15), .int v112, .int v114, .ref (ad 16), .int v116, .int v118, .int v120, .int v122, .int v123, .ref (ad 17), .ref (ad 18), .int v124, .ref (ad 19)]) := (up_ne eS138 (by decide) c134)
  refine xget E hQ 0 (by decide) c140 rfl 19 (by decide) q1487 rfl dX12_copyShore_33 ?_
  refine lv_bipush (v := 24) hx hb dX12_copyShore_36 (by decide) ?_
  refine lv_iload_n hx hb dX12_copyShore_38 rfl (lv_at hl 1 rfl) ?_
  refine lv_iload_n hx hb dX12_copyShore_39 rfl (lv_at hl 2 rfl) ?_
  have c141 : S138 9 = .inl (g.2 0, 120, .inl f94) := (up_ne eS138 (by decide) (up_ne eS131 (by decide) (up_ne eS126 (by decide) c95)))
  refine xcSv E hs hQ hml hl.1 (uCopyRow l g ad 20 hD S138 9 (by decide) 120 (by decide) f94 24 1 0 (by decide) (by decide) (by decide) c141) mX12_copyRow q1743 rfl ⟨(Nat.le_of_ble_eq_true rfl), (Nat.le_of_ble_eq_true rfl)⟩ ⟨(Nat.le_of_ble_eq_true rfl), (Nat.le_of_ble_eq_true rfl)⟩ (Nat.le_of_ble_eq_true rfl) rfl dX12_copyShore_40 (fun S142 H locs eS142 hQ => ?_)
  have hI := invM_up_9 hI eS142 ⟨_, rfl, ⟨cp_m (q := 8) b96.1 (by decide), cp_m (q := 8) b96.2 (by decide)⟩⟩
  have b144 : (∀ j, j % 3 = 1 → Bd ((cpF f94 24 1 0 24) j) (0) (11)) ∧ (∀ j, j % 3 = 2 → Bd ((cpF f94 24 1 0 24) j) (0) (99)) := ⟨cp_m (q := 8) b96.1 (by decide), cp_m (q := 8) b96.2 (by decide)⟩
  have c143 : S142 9 = .inl (g.2 0, 120, .inl (cpF f94 24 1 0 24)) := up_at eS142 rfl
  refine lv_aload_n hx hb dX12_copyShore_43 rfl (lv_at hl 0 rfl) ?_
  have c145 : S142 0 = .inr (12, [.int v97, .ref (ad 1), .ref (ad 2), .ref (ad 3), .ref (ad 4), .ref (ad 5), .int v98, .int v100, .int v102, .int v104, .int v105, .long w106, .int v107, .int v109, .int v110, .int v111, .ref (ad 6), .ref (ad 7), .ref (ad 8), .ref (ad 9), .ref (ad 10), .ref (ad 11), .ref (ad 12), .ref (ad 13), .ref (ad 14), .ref (ad 15), .int v112, .int v114, .ref (ad 16), .int v116, .int v118, .int v120, .int v122, .int v123, .ref (ad 17), .ref (ad 18), .int v124, .ref (ad 19)]) := (up_ne eS142 (by decide) c140)
  refine xget E hQ 0 (by decide) c145 rfl 20 (by decide) q1488 rfl dX12_copyShore_44 ?_
  refine lv_bipush (v := 24) hx hb dX12_copyShore_47 (by decide) ?_
  refine lv_iload_n hx hb dX12_copyShore_49 rfl (lv_at hl 1 rfl) ?_
  refine lv_iload_n hx hb dX12_copyShore_50 rfl (lv_at hl 2 rfl) ?_
  obtain ⟨f146, c147⟩ := invM_10 hI
  refine xcSv E hs hQ hml hl.1 (uCopyRow l g ad 20 hD S142 10 (by decide) 120 (by decide) f146 24 1 0 (by decide) (by decide) (by decide) c147) mX12_copyRow q1743 rfl ⟨(Nat.le_of_ble_eq_true rfl), (Nat.le_of_ble_eq_true rfl)⟩ ⟨(Nat.le_of_ble_eq_true rfl), (Nat.le_of_ble_eq_true rfl)⟩ (Nat.le_of_ble_eq_true rfl) rfl dX12_copyShore_51 (fun S149 H locs eS149 hQ => ?_)
  have hI := invM_up_10 hI eS149 ⟨_, rfl⟩
  have c150 : S149 10 = .inl (g.2 0, 120, .inl (cpF f146 24 1 0 24)) := up_at eS149 rfl
  refine lv_aload_n hx hb dX12_copyShore_54 rfl (lv_at hl 0 rfl) ?_
  have c151 : S149 0 = .inr (12, [.int v97, .ref (ad 1), .ref (ad 2), .ref (ad 3), .ref (ad 4), .ref (ad 5), .int v98, .int v100, .int v102, .int v104, .int v105, .long w106, .int v107, .int v109, .int v110, .int v111, .ref (ad 6), .ref (ad 7), .ref (ad 8), .ref (ad 9), .ref (ad 10), .ref (ad 11), .ref (ad 12), .ref (ad 13), .ref (ad 14), .ref (ad 15), .int v112, .int v114, .ref (ad 16), .int v116, .int v118, .int v120, .int v122, .int v123, .ref (ad 17), .ref (ad 18), .int v124, .ref (ad 19)]) := (up_ne eS149 (by decide) c145)
  refine xget E hQ 0 (by decide) c151 rfl 21 (by decide) q1489 rfl dX12_copyShore_55 ?_
  refine lv_iconst (v := 3) hx hb dX12_copyShore_58 (by decide) ?_
  refine lv_iload_n hx hb dX12_copyShore_59 rfl (lv_at hl 1 rfl) ?_
  refine lv_iload_n hx hb dX12_copyShore_60 rfl (lv_at hl 2 rfl) ?_
  obtain ⟨f152, c153, b154⟩ := invM_11 hI
  refine xcSv E hs hQ hml hl.1 (uCopyRow l g ad 20 hD S149 11 (by decide) 15 (by decide) f152 3 1 0 (by decide) (by decide) (by decide) c153) mX12_copyRow q1743 rfl ⟨(Nat.le_of_ble_eq_true rfl), (Nat.le_of_ble_eq_true rfl)⟩ ⟨(Nat.le_of_ble_eq_true rfl), (Nat.le_of_ble_eq_true rfl)⟩ (Nat.le_of_ble_eq_true rfl) rfl dX12_copyShore_61 (fun S155 H locs eS155 hQ => ?_)
  have hI := invM_up_11 hI eS155 ⟨_, rfl, cp_b b154⟩
  have b157 : ∀ j, Bd ((cpF f152 3 1 0 3) j) (0) (11) := cp_b b154
  have c156 : S155 11 = .inl (g.2 0, 15, .inl (cpF f152 3 1 0 3)) := up_at eS155 rfl
  refine lv_aload_n hx hb dX12_copyShore_64 rfl (lv_at hl 0 rfl) ?_
  have c158 : S155 0 = .inr (12, [.int v97, .ref (ad 1), .ref (ad 2), .ref (ad 3), .ref (ad 4), .ref (ad 5), .int v98, .int v100, .int v102, .int v104, .int v105, .long w106, .int v107, .int v109, .int v110, .int v111, .ref (ad 6), .ref (ad 7), .ref (ad 8), .ref (ad 9), .ref (ad 10), .ref (ad 11), .ref (ad 12), .ref (ad 13), .ref (ad 14), .ref (ad 15), .int v112, .int v114, .ref (ad 16), .int v116, .int v118, .int v120, .int v122, .int v123, .ref (ad 17), .ref (ad 18), .int v124, .ref (ad 19)]) := (up_ne eS155 (by decide) c151)
  refine xget E hQ 0 (by decide) c158 rfl 22 (by decide) q1490 rfl dX12_copyShore_65 ?_
  refine lv_sipush (v := 160) hx hb dX12_copyShore_68 (by decide) ?_
  refine lv_iload_n hx hb dX12_copyShore_71 rfl (lv_at hl 1 rfl) ?_
  refine lv_iload_n hx hb dX12_copyShore_72 rfl (lv_at hl 2 rfl) ?_
  have c159 : S155 12 = .inl (g.2 0, 800, .inl f91) := (up_ne eS155 (by decide) (up_ne eS149 (by decide) (up_ne eS142 (by decide) (up_ne eS138 (by decide) (up_ne eS131 (by decide) (up_ne eS126 (by decide) c92))))))
  refine xcSv E hs hQ hml hl.1 (uCopyRow l g ad 20 hD S155 12 (by decide) 800 (by decide) f91 160 1 0 (by decide) (by decide) (by decide) c159) mX12_copyRow q1743 rfl ⟨(Nat.le_of_ble_eq_true rfl), (Nat.le_of_ble_eq_true rfl)⟩ ⟨(Nat.le_of_ble_eq_true rfl), (Nat.le_of_ble_eq_true rfl)⟩ (Nat.le_of_ble_eq_true rfl) rfl dX12_copyShore_73 (fun S160 H locs eS160 hQ => ?_)
  have hI := invM_up_12 hI eS160 ⟨_, rfl, ⟨cp_m (q := 40) b93.1 (by decide), cp_m (q := 40) b93.2 (by decide)⟩⟩
  have b162 : (∀ j, j % 4 = 1 → Bd ((cpF f91 160 1 0 160) j) (0) (7)) ∧ (∀ j, j % 4 = 2 → Bd ((cpF f91 160 1 0 160) j) (0) (400)) := ⟨cp_m (q := 40) b93.1 (by decide), cp_m (q := 40) b93.2 (by decide)⟩
  have c161 : S160 12 = .inl (g.2 0, 800, .inl (cpF f91 160 1 0 160)) := up_at eS160 rfl
  have q163 : elm (S 7) 10 = v4.toInt := (elm_of c2 10).trans (congrArg Int32.toInt (ee5))
  have c164 : S160 7 = .inl (g.2 0, 50, .inl (cpF f1 10 1 0 10)) := (up_ne eS160 (by decide) (up_ne eS155 (by decide) (up_ne eS149 (by decide) (up_ne eS142 (by decide) (up_ne eS138 (by decide) c132)))))
  have q165 : elm (S160 7) 0 = v4.toInt := (elm_of c164 0).trans (congrArg Int32.toInt (((show cpF f1 10 1 0 10 0 = f1 10 from rfl).trans (ee5))))
  have q166 : elm (S 7) 11 = v10.toInt := (elm_of c2 11).trans (congrArg Int32.toInt (ee11))
  have q167 : elm (S160 7) 1 = v10.toInt := (elm_of c164 1).trans (congrArg Int32.toInt (((show cpF f1 10 1 0 10 1 = f1 11 from rfl).trans (ee11))))
  have q168 : elm (S 7) 13 = v16.toInt := (elm_of c2 13).trans (congrArg Int32.toInt (ee17))
  have q169 : elm (S160 7) 3 = v16.toInt := (elm_of c164 3).trans (congrArg Int32.toInt (((show cpF f1 10 1 0 10 3 = f1 13 from rfl).trans (ee17))))
  have q170 : elm (S 7) 16 = v22.toInt := (elm_of c2 16).trans (congrArg Int32.toInt (ee23))
  have q171 : elm (S160 7) 6 = v22.toInt := (elm_of c164 6).trans (congrArg Int32.toInt (((show cpF f1 10 1 0 10 6 = f1 16 from rfl).trans (ee23))))
  have q172 : elm (S 7) 18 = v28.toInt := (elm_of c2 18).trans (congrArg Int32.toInt (ee29))
  have q173 : elm (S160 7) 8 = v28.toInt := (elm_of c164 8).trans (congrArg Int32.toInt (((show cpF f1 10 1 0 10 8 = f1 18 from rfl).trans (ee29))))
  have q174 : elm (S 7) 19 = v34.toInt := (elm_of c2 19).trans (congrArg Int32.toInt (ee35))
  have q175 : elm (S160 7) 9 = v34.toInt := (elm_of c164 9).trans (congrArg Int32.toInt (((show cpF f1 10 1 0 10 9 = f1 19 from rfl).trans (ee35))))
  have q176 : elm (S160 7) 10 = v4.toInt := (elm_of c164 10).trans (congrArg Int32.toInt (((show cpF f1 10 1 0 10 10 = f1 10 from rfl).trans (ee5))))
  have q177 : elm (S160 7) 11 = v10.toInt := (elm_of c164 11).trans (congrArg Int32.toInt (((show cpF f1 10 1 0 10 11 = f1 11 from rfl).trans (ee11))))
  have q178 : elm (S160 7) 13 = v16.toInt := (elm_of c164 13).trans (congrArg Int32.toInt (((show cpF f1 10 1 0 10 13 = f1 13 from rfl).trans (ee17))))
  have q179 : elm (S160 7) 16 = v22.toInt := (elm_of c164 16).trans (congrArg Int32.toInt (((show cpF f1 10 1 0 10 16 = f1 16 from rfl).trans (ee23))))
  have q180 : elm (S160 7) 18 = v28.toInt := (elm_of c164 18).trans (congrArg Int32.toInt (((show cpF f1 10 1 0 10 18 = f1 18 from rfl).trans (ee29))))
  have q181 : elm (S160 7) 19 = v34.toInt := (elm_of c164 19).trans (congrArg Int32.toInt (((show cpF f1 10 1 0 10 19 = f1 19 from rfl).trans (ee35))))
  have q182 : elm (S 7) 20 = v40.toInt := (elm_of c2 20).trans (congrArg Int32.toInt (ee41))
  have q183 : elm (S160 7) 20 = v40.toInt := (elm_of c164 20).trans (congrArg Int32.toInt (((show cpF f1 10 1 0 10 20 = f1 20 from rfl).trans (ee41))))
  have q184 : elm (S 7) 21 = v43.toInt := (elm_of c2 21).trans (congrArg Int32.toInt (ee44))
  have q185 : elm (S160 7) 21 = v43.toInt := (elm_of c164 21).trans (congrArg Int32.toInt (((show cpF f1 10 1 0 10 21 = f1 21 from rfl).trans (ee44))))
  have q186 : elm (S 7) 23 = v46.toInt := (elm_of c2 23).trans (congrArg Int32.toInt (ee47))
  have q187 : elm (S160 7) 23 = v46.toInt := (elm_of c164 23).trans (congrArg Int32.toInt (((show cpF f1 10 1 0 10 23 = f1 23 from rfl).trans (ee47))))
  have q188 : elm (S 7) 26 = v49.toInt := (elm_of c2 26).trans (congrArg Int32.toInt (ee50))
  have q189 : elm (S160 7) 26 = v49.toInt := (elm_of c164 26).trans (congrArg Int32.toInt (((show cpF f1 10 1 0 10 26 = f1 26 from rfl).trans (ee50))))
  have q190 : elm (S 7) 28 = v52.toInt := (elm_of c2 28).trans (congrArg Int32.toInt (ee53))
  have q191 : elm (S160 7) 28 = v52.toInt := (elm_of c164 28).trans (congrArg Int32.toInt (((show cpF f1 10 1 0 10 28 = f1 28 from rfl).trans (ee53))))
  have q192 : elm (S 7) 29 = v55.toInt := (elm_of c2 29).trans (congrArg Int32.toInt (ee56))
  have q193 : elm (S160 7) 29 = v55.toInt := (elm_of c164 29).trans (congrArg Int32.toInt (((show cpF f1 10 1 0 10 29 = f1 29 from rfl).trans (ee56))))
  have q194 : elm (S 7) 30 = v58.toInt := (elm_of c2 30).trans (congrArg Int32.toInt (ee59))
  have q195 : elm (S160 7) 30 = v58.toInt := (elm_of c164 30).trans (congrArg Int32.toInt (((show cpF f1 10 1 0 10 30 = f1 30 from rfl).trans (ee59))))
  have q196 : elm (S 7) 31 = v61.toInt := (elm_of c2 31).trans (congrArg Int32.toInt (ee62))
  have q197 : elm (S160 7) 31 = v61.toInt := (elm_of c164 31).trans (congrArg Int32.toInt (((show cpF f1 10 1 0 10 31 = f1 31 from rfl).trans (ee62))))
  have q198 : elm (S 7) 33 = v64.toInt := (elm_of c2 33).trans (congrArg Int32.toInt (ee65))
  have q199 : elm (S160 7) 33 = v64.toInt := (elm_of c164 33).trans (congrArg Int32.toInt (((show cpF f1 10 1 0 10 33 = f1 33 from rfl).trans (ee65))))
  have q200 : elm (S 7) 36 = v67.toInt := (elm_of c2 36).trans (congrArg Int32.toInt (ee68))
  have q201 : elm (S160 7) 36 = v67.toInt := (elm_of c164 36).trans (congrArg Int32.toInt (((show cpF f1 10 1 0 10 36 = f1 36 from rfl).trans (ee68))))
  have q202 : elm (S 7) 38 = v70.toInt := (elm_of c2 38).trans (congrArg Int32.toInt (ee71))
  have q203 : elm (S160 7) 38 = v70.toInt := (elm_of c164 38).trans (congrArg Int32.toInt (((show cpF f1 10 1 0 10 38 = f1 38 from rfl).trans (ee71))))
  have q204 : elm (S 7) 39 = v73.toInt := (elm_of c2 39).trans (congrArg Int32.toInt (ee74))
  have q205 : elm (S160 7) 39 = v73.toInt := (elm_of c164 39).trans (congrArg Int32.toInt (((show cpF f1 10 1 0 10 39 = f1 39 from rfl).trans (ee74))))
  have q206 : elm (S 6) 1 = v79.toInt := (elm_of c77 1).trans (congrArg Int32.toInt (ee80))
  have c207 : S160 6 = .inl (g.2 0, 5, .inl (cpF f76 1 1 0 1)) := (up_ne eS160 (by decide) (up_ne eS155 (by decide) (up_ne eS149 (by decide) (up_ne eS142 (by decide) (up_ne eS138 (by decide) (up_ne eS131 (by decide) c127))))))
  have q208 : elm (S160 6) 0 = v79.toInt := (elm_of c207 0).trans (congrArg Int32.toInt (((show cpF f76 1 1 0 1 0 = f76 1 from rfl).trans (ee80))))
  have q209 : elm (S160 6) 1 = v79.toInt := (elm_of c207 1).trans (congrArg Int32.toInt (((show cpF f76 1 1 0 1 1 = f76 1 from rfl).trans (ee80))))
  have q210 : elm (S 6) 2 = v85.toInt := (elm_of c77 2).trans (congrArg Int32.toInt (ee86))
  have q211 : elm (S160 6) 2 = v85.toInt := (elm_of c207 2).trans (congrArg Int32.toInt (((show cpF f76 1 1 0 1 2 = f76 2 from rfl).trans (ee86))))
  have q212 : elm (S 6) 3 = v88.toInt := (elm_of c77 3).trans (congrArg Int32.toInt (ee89))
  have q213 : elm (S160 6) 3 = v88.toInt := (elm_of c207 3).trans (congrArg Int32.toInt (((show cpF f76 1 1 0 1 3 = f76 3 from rfl).trans (ee89))))
  have c214 : S160 9 = .inl (g.2 0, 120, .inl (cpF f94 24 1 0 24)) := (up_ne eS160 (by decide) (up_ne eS155 (by decide) (up_ne eS149 (by decide) c143)))
  exact xrv E hr hlk hQ (⟨hI, (up_o (up_o (up_o (up_o (up_o (up_o (up_o o_refl eS126 (by decide)) eS131 (by decide)) eS138 (by decide)) eS142 (by decide)) eS149 (by decide)) eS155 (by decide)) eS160 (by decide)), ⟨by omega, by omega⟩, ⟨by omega, by omega⟩, ⟨by omega, by omega⟩, ⟨by omega, by omega⟩, ⟨by omega, by omega⟩, ⟨by omega, by omega⟩, ⟨by omega, by omega⟩, ⟨by omega, by omega⟩, ⟨by omega, by omega⟩, ⟨by omega, by omega⟩, ⟨by omega, by omega⟩, ⟨by omega, by omega⟩, ⟨by omega, by omega⟩, ⟨by omega, by omega⟩, ⟨by omega, by omega⟩, ⟨by omega, by omega⟩, ⟨by omega, by omega⟩, ⟨by omega, by omega⟩, ⟨by omega, by omega⟩, ⟨by omega, by omega⟩, ⟨by omega, by omega⟩, ⟨by omega, by omega⟩, ⟨by omega, by omega⟩, ⟨by omega, by omega⟩, ⟨by omega, by omega⟩, ⟨by omega, by omega⟩, ⟨by omega, by omega⟩, ⟨by omega, by omega⟩, (at_cpb c2 c92 c164 c161 b3.2.2.2.2.2.2.2 hAT1), (at_cpo c2 c92 c164 c161 b3.2.2.2.2.2.2.2 (by decide) hAT1), (at_cpo c2 c92 c164 c161 b3.2.2.2.2.2.2.2 (by decide) hAT2), (at_cpo c2 c92 c164 c161 b3.2.2.2.2.2.2.2 (by decide) hAT3), (ht_cpb c2 c95 c164 c214 b3.2.2.2.2.1 hHT1), (ht_cpo c2 c95 c164 c214 b3.2.2.2.2.1 (by decide) hHT1), (ht_cpo c2 c95 c164 c214 b3.2.2.2.2.1 (by decide) hHT2), (ht_cpo c2 c95 c164 c214 b3.2.2.2.2.1 (by decide) hHT3)⟩) dX12_copyShore_76
set_option maxHeartbeats 4000000 in
set_option maxRecDepth 100000 in
theorem gX12_copyShore_2_0 (l : Launch) (g : GG) (ad : Nat → Nat) (hD : Dj ad 20) (S : SS) (hI : InvM g ad S) (hAT0 : ATp (S 7) (S 12) 0) (hAT1 : ATp (S 7) (S 12) 1) (hAT2 : ATp (S 7) (S 12) 2) (hAT3 : ATp (S 7) (S 12) 3) (hHT0 : HTp (S 7) (S 9) 0) (hHT1 : HTp (S 7) (S 9) 1) (hHT2 : HTp (S 7) (S 9) 2) (hHT3 : HTp (S 7) (S 9) 3) : Met l yX12_copyShore (wG (.code yX12_copyShore cX12_copyShore 3 none)) (Rm 1) (XPre g ad 20 S [.ref (ad 0), .int 2, .int 0]) (va_Qv (fun S' => InvM g ad S' ∧ (∀ j, j ∉ ([6, 7, 8, 9, 10, 11, 12] : List Nat) → S' j = S j) ∧ (0 ≤ elm (S 7) 20 + (-1) * elm (S' 7) 0 ∧ 0 ≤ elm (S' 7) 0 + (-1) * elm (S 7) 20) ∧ (0 ≤ elm (S 7) 21 + (-1) * elm (S' 7) 1 ∧ 0 ≤ elm (S' 7) 1 + (-1) * elm (S 7) 21) ∧ (0 ≤ elm (S 7) 23 + (-1) * elm (S' 7) 3 ∧ 0 ≤ elm (S' 7) 3 + (-1) * elm (S 7) 23) ∧ (0 ≤ elm (S 7) 26 + (-1) * elm (S' 7) 6 ∧ 0 ≤ elm (S' 7) 6 + (-1) * elm (S 7) 26) ∧ (0 ≤ elm (S 7) 28 + (-1) * elm (S' 7) 8 ∧ 0 ≤ elm (S' 7) 8 + (-1) * elm (S 7) 28) ∧ (0 ≤ elm (S 7) 29 + (-1) * elm (S' 7) 9 ∧ 0 ≤ elm (S' 7) 9 + (-1) * elm (S 7) 29) ∧ (0 ≤ elm (S 7) 10 + (-1) * elm (S' 7) 10 ∧ 0 ≤ elm (S' 7) 10 + (-1) * elm (S 7) 10) ∧ (0 ≤ elm (S 7) 11 + (-1) * elm (S' 7) 11 ∧ 0 ≤ elm (S' 7) 11 + (-1) * elm (S 7) 11) ∧ (0 ≤ elm (S 7) 13 + (-1) * elm (S' 7) 13 ∧ 0 ≤ elm (S' 7) 13 + (-1) * elm (S 7) 13) ∧ (0 ≤ elm (S 7) 16 + (-1) * elm (S' 7) 16 ∧ 0 ≤ elm (S' 7) 16 + (-1) * elm (S 7) 16) ∧ (0 ≤ elm (S 7) 18 + (-1) * elm (S' 7) 18 ∧ 0 ≤ elm (S' 7) 18 + (-1) * elm (S 7) 18) ∧ (0 ≤ elm (S 7) 19 + (-1) * elm (S' 7) 19 ∧ 0 ≤ elm (S' 7) 19 + (-1) * elm (S 7) 19) ∧ (0 ≤ elm (S 7) 20 + (-1) * elm (S' 7) 20 ∧ 0 ≤ elm (S' 7) 20 + (-1) * elm (S 7) 20) ∧ (0 ≤ elm (S 7) 21 + (-1) * elm (S' 7) 21 ∧ 0 ≤ elm (S' 7) 21 + (-1) * elm (S 7) 21) ∧ (0 ≤ elm (S 7) 23 + (-1) * elm (S' 7) 23 ∧ 0 ≤ elm (S' 7) 23 + (-1) * elm (S 7) 23) ∧ (0 ≤ elm (S 7) 26 + (-1) * elm (S' 7) 26 ∧ 0 ≤ elm (S' 7) 26 + (-1) * elm (S 7) 26) ∧ (0 ≤ elm (S 7) 28 + (-1) * elm (S' 7) 28 ∧ 0 ≤ elm (S' 7) 28 + (-1) * elm (S 7) 28) ∧ (0 ≤ elm (S 7) 29 + (-1) * elm (S' 7) 29 ∧ 0 ≤ elm (S' 7) 29 + (-1) * elm (S 7) 29) ∧ (0 ≤ elm (S 7) 30 + (-1) * elm (S' 7) 30 ∧ 0 ≤ elm (S' 7) 30 + (-1) * elm (S 7) 30) ∧ (0 ≤ elm (S 7) 31 + (-1) * elm (S' 7) 31 ∧ 0 ≤ elm (S' 7) 31 + (-1) * elm (S 7) 31) ∧ (0 ≤ elm (S 7) 33 + (-1) * elm (S' 7) 33 ∧ 0 ≤ elm (S' 7) 33 + (-1) * elm (S 7) 33) ∧ (0 ≤ elm (S 7) 36 + (-1) * elm (S' 7) 36 ∧ 0 ≤ elm (S' 7) 36 + (-1) * elm (S 7) 36) ∧ (0 ≤ elm (S 7) 38 + (-1) * elm (S' 7) 38 ∧ 0 ≤ elm (S' 7) 38 + (-1) * elm (S 7) 38) ∧ (0 ≤ elm (S 7) 39 + (-1) * elm (S' 7) 39 ∧ 0 ≤ elm (S' 7) 39 + (-1) * elm (S 7) 39) ∧ (0 ≤ elm (S 6) 2 + (-1) * elm (S' 6) 0 ∧ 0 ≤ elm (S' 6) 0 + (-1) * elm (S 6) 2) ∧ (0 ≤ elm (S 6) 1 + (-1) * elm (S' 6) 1 ∧ 0 ≤ elm (S' 6) 1 + (-1) * elm (S 6) 1) ∧ (0 ≤ elm (S 6) 2 + (-1) * elm (S' 6) 2 ∧ 0 ≤ elm (S' 6) 2 + (-1) * elm (S 6) 2) ∧ (0 ≤ elm (S 6) 3 + (-1) * elm (S' 6) 3 ∧ 0 ≤ elm (S' 6) 3 + (-1) * elm (S 6) 3) ∧ (ATp (S' 7) (S' 12) 0) ∧ (ATp (S' 7) (S' 12) 1) ∧ (ATp (S' 7) (S' 12) 2) ∧ (ATp (S' 7) (S' 12) 3) ∧ (HTp (S' 7) (S' 9) 0) ∧ (HTp (S' 7) (S' 9) 1) ∧ (HTp (S' 7) (S' 9) 2) ∧ (HTp (S' 7) (S' 9) 3)) (QB g ad 20) (FA ad 20)) 0 0 (FA ad 20) := by
  refine xmet cX12_copyShore "EbbWreckModel" (by decide) rfl (Nat.le_of_ble_eq_true rfl) (fun p e s m below meth c E hr hlk hml hQ ls hl => ?_)
  have hx := E.1
  have hb := E.2.1
  have hs : Sp ad 20 (FA ad 20) := Sp.fa hD
  have hl : lv_has ls 3 [(0, .ref (ad 0)), (1, .int 2), (2, .int 0)] := hl
  obtain ⟨f1, c2, b3⟩ := invM_7 hI
  obtain ⟨v4, ee5⟩ : ∃ z : Int32, f1 20 = z := ⟨_, rfl⟩
  have b6 : Bd v4 (0) (12) := (by rw [← ee5]; exact b3.1 20 (by decide))
  obtain ⟨v7, ee8⟩ : ∃ z : Int32, f1 0 = z := ⟨_, rfl⟩
  have b9 : Bd v7 (0) (12) := (by rw [← ee8]; exact b3.1 0 (by decide))
  obtain ⟨v10, ee11⟩ : ∃ z : Int32, f1 21 = z := ⟨_, rfl⟩
  have b12 : Bd v10 (0) (12) := (by rw [← ee11]; exact b3.2.1 21 (by decide))
  obtain ⟨v13, ee14⟩ : ∃ z : Int32, f1 1 = z := ⟨_, rfl⟩
  have b15 : Bd v13 (0) (12) := (by rw [← ee14]; exact b3.2.1 1 (by decide))
  obtain ⟨v16, ee17⟩ : ∃ z : Int32, f1 23 = z := ⟨_, rfl⟩
  have b18 : Bd v16 (0) (12) := (by rw [← ee17]; exact b3.2.2.2.1 23 (by decide))
  obtain ⟨v19, ee20⟩ : ∃ z : Int32, f1 3 = z := ⟨_, rfl⟩
  have b21 : Bd v19 (0) (12) := (by rw [← ee20]; exact b3.2.2.2.1 3 (by decide))
  obtain ⟨v22, ee23⟩ : ∃ z : Int32, f1 26 = z := ⟨_, rfl⟩
  have b24 : Bd v22 (0) (8) := (by rw [← ee23]; exact b3.2.2.2.2.1 26 (by decide))
  obtain ⟨v25, ee26⟩ : ∃ z : Int32, f1 6 = z := ⟨_, rfl⟩
  have b27 : Bd v25 (0) (8) := (by rw [← ee26]; exact b3.2.2.2.2.1 6 (by decide))
  obtain ⟨v28, ee29⟩ : ∃ z : Int32, f1 28 = z := ⟨_, rfl⟩
  have b30 : Bd v28 (0) (3) := (by rw [← ee29]; exact b3.2.2.2.2.2.2.1 28 (by decide))
  obtain ⟨v31, ee32⟩ : ∃ z : Int32, f1 8 = z := ⟨_, rfl⟩
  have b33 : Bd v31 (0) (3) := (by rw [← ee32]; exact b3.2.2.2.2.2.2.1 8 (by decide))
  obtain ⟨v34, ee35⟩ : ∃ z : Int32, f1 29 = z := ⟨_, rfl⟩
  have b36 : Bd v34 (0) (40) := (by rw [← ee35]; exact b3.2.2.2.2.2.2.2 29 (by decide))
  obtain ⟨v37, ee38⟩ : ∃ z : Int32, f1 9 = z := ⟨_, rfl⟩
  have b39 : Bd v37 (0) (40) := (by rw [← ee38]; exact b3.2.2.2.2.2.2.2 9 (by decide))
  obtain ⟨v40, ee41⟩ : ∃ z : Int32, f1 10 = z := ⟨_, rfl⟩
  have b42 : Bd v40 (0) (12) := (by rw [← ee41]; exact b3.1 10 (by decide))
  obtain ⟨v43, ee44⟩ : ∃ z : Int32, f1 11 = z := ⟨_, rfl⟩
  have b45 : Bd v43 (0) (12) := (by rw [← ee44]; exact b3.2.1 11 (by decide))
  obtain ⟨v46, ee47⟩ : ∃ z : Int32, f1 13 = z := ⟨_, rfl⟩
  have b48 : Bd v46 (0) (12) := (by rw [← ee47]; exact b3.2.2.2.1 13 (by decide))
  obtain ⟨v49, ee50⟩ : ∃ z : Int32, f1 16 = z := ⟨_, rfl⟩
  have b51 : Bd v49 (0) (8) := (by rw [← ee50]; exact b3.2.2.2.2.1 16 (by decide))
  obtain ⟨v52, ee53⟩ : ∃ z : Int32, f1 18 = z := ⟨_, rfl⟩
  have b54 : Bd v52 (0) (3) := (by rw [← ee53]; exact b3.2.2.2.2.2.2.1 18 (by decide))
  obtain ⟨v55, ee56⟩ : ∃ z : Int32, f1 19 = z := ⟨_, rfl⟩
  have b57 : Bd v55 (0) (40) := (by rw [← ee56]; exact b3.2.2.2.2.2.2.2 19 (by decide))
  obtain ⟨v58, ee59⟩ : ∃ z : Int32, f1 30 = z := ⟨_, rfl⟩
  have b60 : Bd v58 (0) (12) := (by rw [← ee59]; exact b3.1 30 (by decide))
  obtain ⟨v61, ee62⟩ : ∃ z : Int32, f1 31 = z := ⟨_, rfl⟩
  have b63 : Bd v61 (0) (12) := (by rw [← ee62]; exact b3.2.1 31 (by decide))
  obtain ⟨v64, ee65⟩ : ∃ z : Int32, f1 33 = z := ⟨_, rfl⟩
  have b66 : Bd v64 (0) (12) := (by rw [← ee65]; exact b3.2.2.2.1 33 (by decide))
  obtain ⟨v67, ee68⟩ : ∃ z : Int32, f1 36 = z := ⟨_, rfl⟩
  have b69 : Bd v67 (0) (8) := (by rw [← ee68]; exact b3.2.2.2.2.1 36 (by decide))
  obtain ⟨v70, ee71⟩ : ∃ z : Int32, f1 38 = z := ⟨_, rfl⟩
  have b72 : Bd v70 (0) (3) := (by rw [← ee71]; exact b3.2.2.2.2.2.2.1 38 (by decide))
  obtain ⟨v73, ee74⟩ : ∃ z : Int32, f1 39 = z := ⟨_, rfl⟩
  have b75 : Bd v73 (0) (40) := (by rw [← ee74]; exact b3.2.2.2.2.2.2.2 39 (by decide))
  obtain ⟨f76, c77, b78⟩ := invM_6 hI
  obtain ⟨v79, ee80⟩ : ∃ z : Int32, f76 2 = z := ⟨_, rfl⟩
  have b81 : Bd v79 (0) (40000) := (by rw [← ee80]; exact b78 2)
  obtain ⟨v82, ee83⟩ : ∃ z : Int32, f76 0 = z := ⟨_, rfl⟩
  have b84 : Bd v82 (0) (40000) := (by rw [← ee83]; exact b78 0)
  obtain ⟨v85, ee86⟩ : ∃ z : Int32, f76 1 = z := ⟨_, rfl⟩
  have b87 : Bd v85 (0) (40000) := (by rw [← ee86]; exact b78 1)
  obtain ⟨v88, ee89⟩ : ∃ z : Int32, f76 3 = z := ⟨_, rfl⟩
  have b90 : Bd v88 (0) (40000) := (by rw [← ee89]; exact b78 3)
  obtain ⟨f91, c92, b93⟩ := invM_12 hI
  obtain ⟨f94, c95, b96⟩ := invM_9 hI
  refine lv_aload_n hx hb dX12_copyShore_0 rfl (lv_at hl 0 rfl) ?_
  obtain ⟨v97, v98, v100, v102, v104, v105, w106, v107, v109, v110, v111, v112, v114, v116, v118, v120, v122, v123, v124, c125, b99, b101, b103, b108, b113, b115, b117, b119, b121⟩ := invM_0 hI
  have c125 : S 0 = .inr (12, [.int v97, .ref (ad 1), .ref (ad 2), .ref (ad 3), .ref (ad 4), .ref (ad 5), .int v98, .int v100, .int v102, .int v104, .int v105, .long w106, .int v107, .int v109, .int v110, .int v111, .ref (ad 6), .ref (ad 7), .ref (ad 8), .ref (ad 9), .ref (ad 10), .ref (ad 11), .ref (ad 12), .ref (ad 13), .ref (ad 14), .ref (ad 15), .int v112, .int v114, .ref (ad 16), .int v116, .int v118, .int v120, .int v122, .int v123, .ref (ad 17), .ref (ad 18), .int v124, .ref (ad 19)]) := c125
  refine xget E hQ 0 (by decide) c125 rfl 16 (by decide) q1484 rfl dX12_copyShore_1 ?_
  refine lv_iconst (v := 1) hx hb dX12_copyShore_4 (by decide) ?_
  refine lv_iload_n hx hb dX12_copyShore_5 rfl (lv_at hl 1 rfl) ?_
  refine lv_iload_n hx hb dX12_copyShore_6 rfl (lv_at hl 2 rfl) ?_
  refine xcSv E hs hQ hml hl.1 (uCopyRow l g ad 20 hD S 6 (by decide) 5 (by decide) f76 1 2 0 (by decide) (by decide) (by decide) c77) mX12_copyRow q1743 rfl ⟨(Nat.le_of_ble_eq_true rfl), (Nat.le_of_ble_eq_true rfl)⟩ ⟨(Nat.le_of_ble_eq_true rfl), (Nat.le_of_ble_eq_true rfl)⟩ (Nat.le_of_ble_eq_true rfl) rfl dX12_copyShore_7 (fun S126 H locs eS126 hQ => ?_)
  have hI := invM_up_6 hI eS126 ⟨_, rfl, cp_b b78⟩
  have b128 : ∀ j, Bd ((cpF f76 1 2 0 1) j) (0) (40000) := cp_b b78
  have c127 : S126 6 = .inl (g.2 0, 5, .inl (cpF f76 1 2 0 1)) := up_at eS126 rfl
  refine lv_aload_n hx hb dX12_copyShore_10 rfl (lv_at hl 0 rfl) ?_
  have c129 : S126 0 = .inr (12, [.int v97, .ref (ad 1), .ref (ad 2), .ref (ad 3), .ref (ad 4), .ref (ad 5), .int v98, .int v100, .int v102, .int v104, .int v105, .long w106, .int v107, .int v109, .int v110, .int v111, .ref (ad 6), .ref (ad 7), .ref (ad 8), .ref (ad 9), .ref (ad 10), .ref (ad 11), .ref (ad 12), .ref (ad 13), .ref (ad 14), .ref (ad 15), .int v112, .int v114, .ref (ad 16), .int v116, .int v118, .int v120, .int v122, .int v123, .ref (ad 17), .ref (ad 18), .int v124, .ref (ad 19)]) := (up_ne eS126 (by decide) c125)
  refine xget E hQ 0 (by decide) c129 rfl 17 (by decide) q1485 rfl dX12_copyShore_11 ?_
  refine lv_bipush (v := 10) hx hb dX12_copyShore_14 (by decide) ?_
  refine lv_iload_n hx hb dX12_copyShore_16 rfl (lv_at hl 1 rfl) ?_
  refine lv_iload_n hx hb dX12_copyShore_17 rfl (lv_at hl 2 rfl) ?_
  have c130 : S126 7 = .inl (g.2 0, 50, .inl f1) := (up_ne eS126 (by decide) c2)
  refine xcSv E hs hQ hml hl.1 (uCopyRow l g ad 20 hD S126 7 (by decide) 50 (by decide) f1 10 2 0 (by decide) (by decide) (by decide) c130) mX12_copyRow q1743 rfl ⟨(Nat.le_of_ble_eq_true rfl), (Nat.le_of_ble_eq_true rfl)⟩ ⟨(Nat.le_of_ble_eq_true rfl), (Nat.le_of_ble_eq_true rfl)⟩ (Nat.le_of_ble_eq_true rfl) rfl dX12_copyShore_18 (fun S131 H locs eS131 hQ => ?_)
  have hI := invM_up_7 hI eS131 ⟨_, rfl, ⟨cp_m (q := 1) b3.1 (by decide), cp_m (q := 1) b3.2.1 (by decide), cp_m (q := 1) b3.2.2.1 (by decide), cp_m (q := 1) b3.2.2.2.1 (by decide), cp_m (q := 1) b3.2.2.2.2.1 (by decide), cp_m (q := 1) b3.2.2.2.2.2.1 (by decide), cp_m (q := 1) b3.2.2.2.2.2.2.1 (by decide), cp_m (q := 1) b3.2.2.2.2.2.2.2 (by decide)⟩⟩
  have b133 : (∀ j, j % 10 = 0 → Bd ((cpF f1 10 2 0 10) j) (0) (12)) ∧ (∀ j, j % 10 = 1 → Bd ((cpF f1 10 2 0 10) j) (0) (12)) ∧ (∀ j, j % 10 = 2 → Bd ((cpF f1 10 2 0 10) j) (0) (6)) ∧ (∀ j, j % 10 = 3 → Bd ((cpF f1 10 2 0 10) j) (0) (12)) ∧ (∀ j, j % 10 = 6 → Bd ((cpF f1 10 2 0 10) j) (0) (8)) ∧ (∀ j, j % 10 = 7 → Bd ((cpF f1 10 2 0 10) j) (0) (6)) ∧ (∀ j, j % 10 = 8 → Bd ((cpF f1 10 2 0 10) j) (0) (3)) ∧ (∀ j, j % 10 = 9 → Bd ((cpF f1 10 2 0 10) j) (0) (40)) := ⟨cp_m (q := 1) b3.1 (by decide), cp_m (q := 1) b3.2.1 (by decide), cp_m (q := 1) b3.2.2.1 (by decide), cp_m (q := 1) b3.2.2.2.1 (by decide), cp_m (q := 1) b3.2.2.2.2.1 (by decide), cp_m (q := 1) b3.2.2.2.2.2.1 (by decide), cp_m (q := 1) b3.2.2.2.2.2.2.1 (by decide), cp_m (q := 1) b3.2.2.2.2.2.2.2 (by decide)⟩
  have c132 : S131 7 = .inl (g.2 0, 50, .inl (cpF f1 10 2 0 10)) := up_at eS131 rfl
  refine lv_aload_n hx hb dX12_copyShore_21 rfl (lv_at hl 0 rfl) ?_
  have c134 : S131 0 = .inr (12, [.int v97, .ref (ad 1), .ref (ad 2), .ref (ad 3), .ref (ad 4), .ref (ad 5), .int v98, .int v100, .int v102, .int v104, .int v105, .long w106, .int v107, .int v109, .int v110, .int v111, .ref (ad 6), .ref (ad 7), .ref (ad 8), .ref (ad 9), .ref (ad 10), .ref (ad 11), .ref (ad 12), .ref (ad 13), .ref (ad 14), .ref (ad 15), .int v112, .int v114, .ref (ad 16), .int v116, .int v118, .int v120, .int v122, .int v123, .ref (ad 17), .ref (ad 18), .int v124, .ref (ad 19)]) := (up_ne eS131 (by decide) c129)
  refine xget E hQ 0 (by decide) c134 rfl 18 (by decide) q1486 rfl dX12_copyShore_22 ?_
  refine lv_bipush (v := 24) hx hb dX12_copyShore_25 (by decide) ?_
  refine lv_iload_n hx hb dX12_copyShore_27 rfl (lv_at hl 1 rfl) ?_
  refine lv_iload_n hx hb dX12_copyShore_28 rfl (lv_at hl 2 rfl) ?_
  obtain ⟨f135, c136⟩ := invM_8 hI
  refine xcSv E hs hQ hml hl.1 (uCopyRow l g ad 20 hD S131 8 (by decide) 120 (by decide) f135 24 2 0 (by decide) (by decide) (by decide) c136) mX12_copyRow q1743 rfl ⟨(Nat.le_of_ble_eq_true rfl), (Nat.le_of_ble_eq_true rfl)⟩ ⟨(Nat.le_of_ble_eq_true rfl), (Nat.le_of_ble_eq_true rfl)⟩ (Nat.le_of_ble_eq_true rfl) rfl dX12_copyShore_29 (fun S138 H locs eS138 hQ => ?_)
  have hI := invM_up_8 hI eS138 ⟨_, rfl⟩
  have c139 : S138 8 = .inl (g.2 0, 120, .inl (cpF f135 24 2 0 24)) := up_at eS138 rfl
  refine lv_aload_n hx hb dX12_copyShore_32 rfl (lv_at hl 0 rfl) ?_
  have c140 : S138 0 = .inr (12, [.int v97, .ref (ad 1), .ref (ad 2), .ref (ad 3), .ref (ad 4), .ref (ad 5), .int v98, .int v100, .int v102, .int v104, .int v105, .long w106, .int v107, .int v109, .int v110, .int v111, .ref (ad 6), .ref (ad 7), .ref (ad 8), .ref (ad 9), .ref (ad 10), .ref (ad 11), .ref (ad 12), .ref (ad 13), .ref (ad 14), .ref (ad 15), .int v112, .int v114, .ref (ad 16), .int v116, .int v118, .int v120, .int v122, .int v123, .ref (ad 17), .ref (ad 18), .int v124, .ref (ad 19)]) := (up_ne eS138 (by decide) c134)
  refine xget E hQ 0 (by decide) c140 rfl 19 (by decide) q1487 rfl dX12_copyShore_33 ?_
  refine lv_bipush (v := 24) hx hb dX12_copyShore_36 (by decide) ?_
  refine lv_iload_n hx hb dX12_copyShore_38 rfl (lv_at hl 1 rfl) ?_
  refine lv_iload_n hx hb dX12_copyShore_39 rfl (lv_at hl 2 rfl) ?_
  have c141 : S138 9 = .inl (g.2 0, 120, .inl f94) := (up_ne eS138 (by decide) (up_ne eS131 (by decide) (up_ne eS126 (by decide) c95)))
  refine xcSv E hs hQ hml hl.1 (uCopyRow l g ad 20 hD S138 9 (by decide) 120 (by decide) f94 24 2 0 (by decide) (by decide) (by decide) c141) mX12_copyRow q1743 rfl ⟨(Nat.le_of_ble_eq_true rfl), (Nat.le_of_ble_eq_true rfl)⟩ ⟨(Nat.le_of_ble_eq_true rfl), (Nat.le_of_ble_eq_true rfl)⟩ (Nat.le_of_ble_eq_true rfl) rfl dX12_copyShore_40 (fun S142 H locs eS142 hQ => ?_)
  have hI := invM_up_9 hI eS142 ⟨_, rfl, ⟨cp_m (q := 8) b96.1 (by decide), cp_m (q := 8) b96.2 (by decide)⟩⟩
  have b144 : (∀ j, j % 3 = 1 → Bd ((cpF f94 24 2 0 24) j) (0) (11)) ∧ (∀ j, j % 3 = 2 → Bd ((cpF f94 24 2 0 24) j) (0) (99)) := ⟨cp_m (q := 8) b96.1 (by decide), cp_m (q := 8) b96.2 (by decide)⟩
  have c143 : S142 9 = .inl (g.2 0, 120, .inl (cpF f94 24 2 0 24)) := up_at eS142 rfl
  refine lv_aload_n hx hb dX12_copyShore_43 rfl (lv_at hl 0 rfl) ?_
  have c145 : S142 0 = .inr (12, [.int v97, .ref (ad 1), .ref (ad 2), .ref (ad 3), .ref (ad 4), .ref (ad 5), .int v98, .int v100, .int v102, .int v104, .int v105, .long w106, .int v107, .int v109, .int v110, .int v111, .ref (ad 6), .ref (ad 7), .ref (ad 8), .ref (ad 9), .ref (ad 10), .ref (ad 11), .ref (ad 12), .ref (ad 13), .ref (ad 14), .ref (ad 15), .int v112, .int v114, .ref (ad 16), .int v116, .int v118, .int v120, .int v122, .int v123, .ref (ad 17), .ref (ad 18), .int v124, .ref (ad 19)]) := (up_ne eS142 (by decide) c140)
  refine xget E hQ 0 (by decide) c145 rfl 20 (by decide) q1488 rfl dX12_copyShore_44 ?_
  refine lv_bipush (v := 24) hx hb dX12_copyShore_47 (by decide) ?_
  refine lv_iload_n hx hb dX12_copyShore_49 rfl (lv_at hl 1 rfl) ?_
  refine lv_iload_n hx hb dX12_copyShore_50 rfl (lv_at hl 2 rfl) ?_
  obtain ⟨f146, c147⟩ := invM_10 hI
  refine xcSv E hs hQ hml hl.1 (uCopyRow l g ad 20 hD S142 10 (by decide) 120 (by decide) f146 24 2 0 (by decide) (by decide) (by decide) c147) mX12_copyRow q1743 rfl ⟨(Nat.le_of_ble_eq_true rfl), (Nat.le_of_ble_eq_true rfl)⟩ ⟨(Nat.le_of_ble_eq_true rfl), (Nat.le_of_ble_eq_true rfl)⟩ (Nat.le_of_ble_eq_true rfl) rfl dX12_copyShore_51 (fun S149 H locs eS149 hQ => ?_)
  have hI := invM_up_10 hI eS149 ⟨_, rfl⟩
  have c150 : S149 10 = .inl (g.2 0, 120, .inl (cpF f146 24 2 0 24)) := up_at eS149 rfl
  refine lv_aload_n hx hb dX12_copyShore_54 rfl (lv_at hl 0 rfl) ?_
  have c151 : S149 0 = .inr (12, [.int v97, .ref (ad 1), .ref (ad 2), .ref (ad 3), .ref (ad 4), .ref (ad 5), .int v98, .int v100, .int v102, .int v104, .int v105, .long w106, .int v107, .int v109, .int v110, .int v111, .ref (ad 6), .ref (ad 7), .ref (ad 8), .ref (ad 9), .ref (ad 10), .ref (ad 11), .ref (ad 12), .ref (ad 13), .ref (ad 14), .ref (ad 15), .int v112, .int v114, .ref (ad 16), .int v116, .int v118, .int v120, .int v122, .int v123, .ref (ad 17), .ref (ad 18), .int v124, .ref (ad 19)]) := (up_ne eS149 (by decide) c145)
  refine xget E hQ 0 (by decide) c151 rfl 21 (by decide) q1489 rfl dX12_copyShore_55 ?_
  refine lv_iconst (v := 3) hx hb dX12_copyShore_58 (by decide) ?_
  refine lv_iload_n hx hb dX12_copyShore_59 rfl (lv_at hl 1 rfl) ?_
  refine lv_iload_n hx hb dX12_copyShore_60 rfl (lv_at hl 2 rfl) ?_
  obtain ⟨f152, c153, b154⟩ := invM_11 hI
  refine xcSv E hs hQ hml hl.1 (uCopyRow l g ad 20 hD S149 11 (by decide) 15 (by decide) f152 3 2 0 (by decide) (by decide) (by decide) c153) mX12_copyRow q1743 rfl ⟨(Nat.le_of_ble_eq_true rfl), (Nat.le_of_ble_eq_true rfl)⟩ ⟨(Nat.le_of_ble_eq_true rfl), (Nat.le_of_ble_eq_true rfl)⟩ (Nat.le_of_ble_eq_true rfl) rfl dX12_copyShore_61 (fun S155 H locs eS155 hQ => ?_)
  have hI := invM_up_11 hI eS155 ⟨_, rfl, cp_b b154⟩
  have b157 : ∀ j, Bd ((cpF f152 3 2 0 3) j) (0) (11) := cp_b b154
  have c156 : S155 11 = .inl (g.2 0, 15, .inl (cpF f152 3 2 0 3)) := up_at eS155 rfl
  refine lv_aload_n hx hb dX12_copyShore_64 rfl (lv_at hl 0 rfl) ?_
  have c158 : S155 0 = .inr (12, [.int v97, .ref (ad 1), .ref (ad 2), .ref (ad 3), .ref (ad 4), .ref (ad 5), .int v98, .int v100, .int v102, .int v104, .int v105, .long w106, .int v107, .int v109, .int v110, .int v111, .ref (ad 6), .ref (ad 7), .ref (ad 8), .ref (ad 9), .ref (ad 10), .ref (ad 11), .ref (ad 12), .ref (ad 13), .ref (ad 14), .ref (ad 15), .int v112, .int v114, .ref (ad 16), .int v116, .int v118, .int v120, .int v122, .int v123, .ref (ad 17), .ref (ad 18), .int v124, .ref (ad 19)]) := (up_ne eS155 (by decide) c151)
  refine xget E hQ 0 (by decide) c158 rfl 22 (by decide) q1490 rfl dX12_copyShore_65 ?_
  refine lv_sipush (v := 160) hx hb dX12_copyShore_68 (by decide) ?_
  refine lv_iload_n hx hb dX12_copyShore_71 rfl (lv_at hl 1 rfl) ?_
  refine lv_iload_n hx hb dX12_copyShore_72 rfl (lv_at hl 2 rfl) ?_
  have c159 : S155 12 = .inl (g.2 0, 800, .inl f91) := (up_ne eS155 (by decide) (up_ne eS149 (by decide) (up_ne eS142 (by decide) (up_ne eS138 (by decide) (up_ne eS131 (by decide) (up_ne eS126 (by decide) c92))))))
  refine xcSv E hs hQ hml hl.1 (uCopyRow l g ad 20 hD S155 12 (by decide) 800 (by decide) f91 160 2 0 (by decide) (by decide) (by decide) c159) mX12_copyRow q1743 rfl ⟨(Nat.le_of_ble_eq_true rfl), (Nat.le_of_ble_eq_true rfl)⟩ ⟨(Nat.le_of_ble_eq_true rfl), (Nat.le_of_ble_eq_true rfl)⟩ (Nat.le_of_ble_eq_true rfl) rfl dX12_copyShore_73 (fun S160 H locs eS160 hQ => ?_)
  have hI := invM_up_12 hI eS160 ⟨_, rfl, ⟨cp_m (q := 40) b93.1 (by decide), cp_m (q := 40) b93.2 (by decide)⟩⟩
  have b162 : (∀ j, j % 4 = 1 → Bd ((cpF f91 160 2 0 160) j) (0) (7)) ∧ (∀ j, j % 4 = 2 → Bd ((cpF f91 160 2 0 160) j) (0) (400)) := ⟨cp_m (q := 40) b93.1 (by decide), cp_m (q := 40) b93.2 (by decide)⟩
  have c161 : S160 12 = .inl (g.2 0, 800, .inl (cpF f91 160 2 0 160)) := up_at eS160 rfl
  have q163 : elm (S 7) 20 = v4.toInt := (elm_of c2 20).trans (congrArg Int32.toInt (ee5))
  have c164 : S160 7 = .inl (g.2 0, 50, .inl (cpF f1 10 2 0 10)) := (up_ne eS160 (by decide) (up_ne eS155 (by decide) (up_ne eS149 (by decide) (up_ne eS142 (by decide) (up_ne eS138 (by decide) c132)))))
  have q165 : elm (S160 7) 0 = v4.toInt := (elm_of c164 0).trans (congrArg Int32.toInt (((show cpF f1 10 2 0 10 0 = f1 20 from rfl).trans (ee5))))
  have q166 : elm (S 7) 21 = v10.toInt := (elm_of c2 21).trans (congrArg Int32.toInt (ee11))
  have q167 : elm (S160 7) 1 = v10.toInt := (elm_of c164 1).trans (congrArg Int32.toInt (((show cpF f1 10 2 0 10 1 = f1 21 from rfl).trans (ee11))))
  have q168 : elm (S 7) 23 = v16.toInt := (elm_of c2 23).trans (congrArg Int32.toInt (ee17))
  have q169 : elm (S160 7) 3 = v16.toInt := (elm_of c164 3).trans (congrArg Int32.toInt (((show cpF f1 10 2 0 10 3 = f1 23 from rfl).trans (ee17))))
  have q170 : elm (S 7) 26 = v22.toInt := (elm_of c2 26).trans (congrArg Int32.toInt (ee23))
  have q171 : elm (S160 7) 6 = v22.toInt := (elm_of c164 6).trans (congrArg Int32.toInt (((show cpF f1 10 2 0 10 6 = f1 26 from rfl).trans (ee23))))
  have q172 : elm (S 7) 28 = v28.toInt := (elm_of c2 28).trans (congrArg Int32.toInt (ee29))
  have q173 : elm (S160 7) 8 = v28.toInt := (elm_of c164 8).trans (congrArg Int32.toInt (((show cpF f1 10 2 0 10 8 = f1 28 from rfl).trans (ee29))))
  have q174 : elm (S 7) 29 = v34.toInt := (elm_of c2 29).trans (congrArg Int32.toInt (ee35))
  have q175 : elm (S160 7) 9 = v34.toInt := (elm_of c164 9).trans (congrArg Int32.toInt (((show cpF f1 10 2 0 10 9 = f1 29 from rfl).trans (ee35))))
  have q176 : elm (S 7) 10 = v40.toInt := (elm_of c2 10).trans (congrArg Int32.toInt (ee41))
  have q177 : elm (S160 7) 10 = v40.toInt := (elm_of c164 10).trans (congrArg Int32.toInt (((show cpF f1 10 2 0 10 10 = f1 10 from rfl).trans (ee41))))
  have q178 : elm (S 7) 11 = v43.toInt := (elm_of c2 11).trans (congrArg Int32.toInt (ee44))
  have q179 : elm (S160 7) 11 = v43.toInt := (elm_of c164 11).trans (congrArg Int32.toInt (((show cpF f1 10 2 0 10 11 = f1 11 from rfl).trans (ee44))))
  have q180 : elm (S 7) 13 = v46.toInt := (elm_of c2 13).trans (congrArg Int32.toInt (ee47))
  have q181 : elm (S160 7) 13 = v46.toInt := (elm_of c164 13).trans (congrArg Int32.toInt (((show cpF f1 10 2 0 10 13 = f1 13 from rfl).trans (ee47))))
  have q182 : elm (S 7) 16 = v49.toInt := (elm_of c2 16).trans (congrArg Int32.toInt (ee50))
  have q183 : elm (S160 7) 16 = v49.toInt := (elm_of c164 16).trans (congrArg Int32.toInt (((show cpF f1 10 2 0 10 16 = f1 16 from rfl).trans (ee50))))
  have q184 : elm (S 7) 18 = v52.toInt := (elm_of c2 18).trans (congrArg Int32.toInt (ee53))
  have q185 : elm (S160 7) 18 = v52.toInt := (elm_of c164 18).trans (congrArg Int32.toInt (((show cpF f1 10 2 0 10 18 = f1 18 from rfl).trans (ee53))))
  have q186 : elm (S 7) 19 = v55.toInt := (elm_of c2 19).trans (congrArg Int32.toInt (ee56))
  have q187 : elm (S160 7) 19 = v55.toInt := (elm_of c164 19).trans (congrArg Int32.toInt (((show cpF f1 10 2 0 10 19 = f1 19 from rfl).trans (ee56))))
  have q188 : elm (S160 7) 20 = v4.toInt := (elm_of c164 20).trans (congrArg Int32.toInt (((show cpF f1 10 2 0 10 20 = f1 20 from rfl).trans (ee5))))
  have q189 : elm (S160 7) 21 = v10.toInt := (elm_of c164 21).trans (congrArg Int32.toInt (((show cpF f1 10 2 0 10 21 = f1 21 from rfl).trans (ee11))))
  have q190 : elm (S160 7) 23 = v16.toInt := (elm_of c164 23).trans (congrArg Int32.toInt (((show cpF f1 10 2 0 10 23 = f1 23 from rfl).trans (ee17))))
  have q191 : elm (S160 7) 26 = v22.toInt := (elm_of c164 26).trans (congrArg Int32.toInt (((show cpF f1 10 2 0 10 26 = f1 26 from rfl).trans (ee23))))
  have q192 : elm (S160 7) 28 = v28.toInt := (elm_of c164 28).trans (congrArg Int32.toInt (((show cpF f1 10 2 0 10 28 = f1 28 from rfl).trans (ee29))))
  have q193 : elm (S160 7) 29 = v34.toInt := (elm_of c164 29).trans (congrArg Int32.toInt (((show cpF f1 10 2 0 10 29 = f1 29 from rfl).trans (ee35))))
  have q194 : elm (S 7) 30 = v58.toInt := (elm_of c2 30).trans (congrArg Int32.toInt (ee59))
  have q195 : elm (S160 7) 30 = v58.toInt := (elm_of c164 30).trans (congrArg Int32.toInt (((show cpF f1 10 2 0 10 30 = f1 30 from rfl).trans (ee59))))
  have q196 : elm (S 7) 31 = v61.toInt := (elm_of c2 31).trans (congrArg Int32.toInt (ee62))
  have q197 : elm (S160 7) 31 = v61.toInt := (elm_of c164 31).trans (congrArg Int32.toInt (((show cpF f1 10 2 0 10 31 = f1 31 from rfl).trans (ee62))))
  have q198 : elm (S 7) 33 = v64.toInt := (elm_of c2 33).trans (congrArg Int32.toInt (ee65))
  have q199 : elm (S160 7) 33 = v64.toInt := (elm_of c164 33).trans (congrArg Int32.toInt (((show cpF f1 10 2 0 10 33 = f1 33 from rfl).trans (ee65))))
  have q200 : elm (S 7) 36 = v67.toInt := (elm_of c2 36).trans (congrArg Int32.toInt (ee68))
  have q201 : elm (S160 7) 36 = v67.toInt := (elm_of c164 36).trans (congrArg Int32.toInt (((show cpF f1 10 2 0 10 36 = f1 36 from rfl).trans (ee68))))
  have q202 : elm (S 7) 38 = v70.toInt := (elm_of c2 38).trans (congrArg Int32.toInt (ee71))
  have q203 : elm (S160 7) 38 = v70.toInt := (elm_of c164 38).trans (congrArg Int32.toInt (((show cpF f1 10 2 0 10 38 = f1 38 from rfl).trans (ee71))))
  have q204 : elm (S 7) 39 = v73.toInt := (elm_of c2 39).trans (congrArg Int32.toInt (ee74))
  have q205 : elm (S160 7) 39 = v73.toInt := (elm_of c164 39).trans (congrArg Int32.toInt (((show cpF f1 10 2 0 10 39 = f1 39 from rfl).trans (ee74))))
  have q206 : elm (S 6) 2 = v79.toInt := (elm_of c77 2).trans (congrArg Int32.toInt (ee80))
  have c207 : S160 6 = .inl (g.2 0, 5, .inl (cpF f76 1 2 0 1)) := (up_ne eS160 (by decide) (up_ne eS155 (by decide) (up_ne eS149 (by decide) (up_ne eS142 (by decide) (up_ne eS138 (by decide) (up_ne eS131 (by decide) c127))))))
  have q208 : elm (S160 6) 0 = v79.toInt := (elm_of c207 0).trans (congrArg Int32.toInt (((show cpF f76 1 2 0 1 0 = f76 2 from rfl).trans (ee80))))
  have q209 : elm (S 6) 1 = v85.toInt := (elm_of c77 1).trans (congrArg Int32.toInt (ee86))
  have q210 : elm (S160 6) 1 = v85.toInt := (elm_of c207 1).trans (congrArg Int32.toInt (((show cpF f76 1 2 0 1 1 = f76 1 from rfl).trans (ee86))))
  have q211 : elm (S160 6) 2 = v79.toInt := (elm_of c207 2).trans (congrArg Int32.toInt (((show cpF f76 1 2 0 1 2 = f76 2 from rfl).trans (ee80))))
  have q212 : elm (S 6) 3 = v88.toInt := (elm_of c77 3).trans (congrArg Int32.toInt (ee89))
  have q213 : elm (S160 6) 3 = v88.toInt := (elm_of c207 3).trans (congrArg Int32.toInt (((show cpF f76 1 2 0 1 3 = f76 3 from rfl).trans (ee89))))
  have c214 : S160 9 = .inl (g.2 0, 120, .inl (cpF f94 24 2 0 24)) := (up_ne eS160 (by decide) (up_ne eS155 (by decide) (up_ne eS149 (by decide) c143)))
  exact xrv E hr hlk hQ (⟨hI, (up_o (up_o (up_o (up_o (up_o (up_o (up_o o_refl eS126 (by decide)) eS131 (by decide)) eS138 (by decide)) eS142 (by decide)) eS149 (by decide)) eS155 (by decide)) eS160 (by decide)), ⟨by omega, by omega⟩, ⟨by omega, by omega⟩, ⟨by omega, by omega⟩, ⟨by omega, by omega⟩, ⟨by omega, by omega⟩, ⟨by omega, by omega⟩, ⟨by omega, by omega⟩, ⟨by omega, by omega⟩, ⟨by omega, by omega⟩, ⟨by omega, by omega⟩, ⟨by omega, by omega⟩, ⟨by omega, by omega⟩, ⟨by omega, by omega⟩, ⟨by omega, by omega⟩, ⟨by omega, by omega⟩, ⟨by omega, by omega⟩, ⟨by omega, by omega⟩, ⟨by omega, by omega⟩, ⟨by omega, by omega⟩, ⟨by omega, by omega⟩, ⟨by omega, by omega⟩, ⟨by omega, by omega⟩, ⟨by omega, by omega⟩, ⟨by omega, by omega⟩, ⟨by omega, by omega⟩, ⟨by omega, by omega⟩, ⟨by omega, by omega⟩, ⟨by omega, by omega⟩, (at_cpb c2 c92 c164 c161 b3.2.2.2.2.2.2.2 hAT2), (at_cpo c2 c92 c164 c161 b3.2.2.2.2.2.2.2 (by decide) hAT1), (at_cpo c2 c92 c164 c161 b3.2.2.2.2.2.2.2 (by decide) hAT2), (at_cpo c2 c92 c164 c161 b3.2.2.2.2.2.2.2 (by decide) hAT3), (ht_cpb c2 c95 c164 c214 b3.2.2.2.2.1 hHT2), (ht_cpo c2 c95 c164 c214 b3.2.2.2.2.1 (by decide) hHT1), (ht_cpo c2 c95 c164 c214 b3.2.2.2.2.1 (by decide) hHT2), (ht_cpo c2 c95 c164 c214 b3.2.2.2.2.1 (by decide) hHT3)⟩) dX12_copyShore_76
set_option maxHeartbeats 4000000 in
set_option maxRecDepth 100000 in
theorem gX12_copyShore_3_0 (l : Launch) (g : GG) (ad : Nat → Nat) (hD : Dj ad 20) (S : SS) (hI : InvM g ad S) (hAT0 : ATp (S 7) (S 12) 0) (hAT1 : ATp (S 7) (S 12) 1) (hAT2 : ATp (S 7) (S 12) 2) (hAT3 : ATp (S 7) (S 12) 3) (hHT0 : HTp (S 7) (S 9) 0) (hHT1 : HTp (S 7) (S 9) 1) (hHT2 : HTp (S 7) (S 9) 2) (hHT3 : HTp (S 7) (S 9) 3) : Met l yX12_copyShore (wG (.code yX12_copyShore cX12_copyShore 3 none)) (Rm 1) (XPre g ad 20 S [.ref (ad 0), .int 3, .int 0]) (va_Qv (fun S' => InvM g ad S' ∧ (∀ j, j ∉ ([6, 7, 8, 9, 10, 11, 12] : List Nat) → S' j = S j) ∧ (0 ≤ elm (S 7) 30 + (-1) * elm (S' 7) 0 ∧ 0 ≤ elm (S' 7) 0 + (-1) * elm (S 7) 30) ∧ (0 ≤ elm (S 7) 31 + (-1) * elm (S' 7) 1 ∧ 0 ≤ elm (S' 7) 1 + (-1) * elm (S 7) 31) ∧ (0 ≤ elm (S 7) 33 + (-1) * elm (S' 7) 3 ∧ 0 ≤ elm (S' 7) 3 + (-1) * elm (S 7) 33) ∧ (0 ≤ elm (S 7) 36 + (-1) * elm (S' 7) 6 ∧ 0 ≤ elm (S' 7) 6 + (-1) * elm (S 7) 36) ∧ (0 ≤ elm (S 7) 38 + (-1) * elm (S' 7) 8 ∧ 0 ≤ elm (S' 7) 8 + (-1) * elm (S 7) 38) ∧ (0 ≤ elm (S 7) 39 + (-1) * elm (S' 7) 9 ∧ 0 ≤ elm (S' 7) 9 + (-1) * elm (S 7) 39) ∧ (0 ≤ elm (S 7) 10 + (-1) * elm (S' 7) 10 ∧ 0 ≤ elm (S' 7) 10 + (-1) * elm (S 7) 10) ∧ (0 ≤ elm (S 7) 11 + (-1) * elm (S' 7) 11 ∧ 0 ≤ elm (S' 7) 11 + (-1) * elm (S 7) 11) ∧ (0 ≤ elm (S 7) 13 + (-1) * elm (S' 7) 13 ∧ 0 ≤ elm (S' 7) 13 + (-1) * elm (S 7) 13) ∧ (0 ≤ elm (S 7) 16 + (-1) * elm (S' 7) 16 ∧ 0 ≤ elm (S' 7) 16 + (-1) * elm (S 7) 16) ∧ (0 ≤ elm (S 7) 18 + (-1) * elm (S' 7) 18 ∧ 0 ≤ elm (S' 7) 18 + (-1) * elm (S 7) 18) ∧ (0 ≤ elm (S 7) 19 + (-1) * elm (S' 7) 19 ∧ 0 ≤ elm (S' 7) 19 + (-1) * elm (S 7) 19) ∧ (0 ≤ elm (S 7) 20 + (-1) * elm (S' 7) 20 ∧ 0 ≤ elm (S' 7) 20 + (-1) * elm (S 7) 20) ∧ (0 ≤ elm (S 7) 21 + (-1) * elm (S' 7) 21 ∧ 0 ≤ elm (S' 7) 21 + (-1) * elm (S 7) 21) ∧ (0 ≤ elm (S 7) 23 + (-1) * elm (S' 7) 23 ∧ 0 ≤ elm (S' 7) 23 + (-1) * elm (S 7) 23) ∧ (0 ≤ elm (S 7) 26 + (-1) * elm (S' 7) 26 ∧ 0 ≤ elm (S' 7) 26 + (-1) * elm (S 7) 26) ∧ (0 ≤ elm (S 7) 28 + (-1) * elm (S' 7) 28 ∧ 0 ≤ elm (S' 7) 28 + (-1) * elm (S 7) 28) ∧ (0 ≤ elm (S 7) 29 + (-1) * elm (S' 7) 29 ∧ 0 ≤ elm (S' 7) 29 + (-1) * elm (S 7) 29) ∧ (0 ≤ elm (S 7) 30 + (-1) * elm (S' 7) 30 ∧ 0 ≤ elm (S' 7) 30 + (-1) * elm (S 7) 30) ∧ (0 ≤ elm (S 7) 31 + (-1) * elm (S' 7) 31 ∧ 0 ≤ elm (S' 7) 31 + (-1) * elm (S 7) 31) ∧ (0 ≤ elm (S 7) 33 + (-1) * elm (S' 7) 33 ∧ 0 ≤ elm (S' 7) 33 + (-1) * elm (S 7) 33) ∧ (0 ≤ elm (S 7) 36 + (-1) * elm (S' 7) 36 ∧ 0 ≤ elm (S' 7) 36 + (-1) * elm (S 7) 36) ∧ (0 ≤ elm (S 7) 38 + (-1) * elm (S' 7) 38 ∧ 0 ≤ elm (S' 7) 38 + (-1) * elm (S 7) 38) ∧ (0 ≤ elm (S 7) 39 + (-1) * elm (S' 7) 39 ∧ 0 ≤ elm (S' 7) 39 + (-1) * elm (S 7) 39) ∧ (0 ≤ elm (S 6) 3 + (-1) * elm (S' 6) 0 ∧ 0 ≤ elm (S' 6) 0 + (-1) * elm (S 6) 3) ∧ (0 ≤ elm (S 6) 1 + (-1) * elm (S' 6) 1 ∧ 0 ≤ elm (S' 6) 1 + (-1) * elm (S 6) 1) ∧ (0 ≤ elm (S 6) 2 + (-1) * elm (S' 6) 2 ∧ 0 ≤ elm (S' 6) 2 + (-1) * elm (S 6) 2) ∧ (0 ≤ elm (S 6) 3 + (-1) * elm (S' 6) 3 ∧ 0 ≤ elm (S' 6) 3 + (-1) * elm (S 6) 3) ∧ (ATp (S' 7) (S' 12) 0) ∧ (ATp (S' 7) (S' 12) 1) ∧ (ATp (S' 7) (S' 12) 2) ∧ (ATp (S' 7) (S' 12) 3) ∧ (HTp (S' 7) (S' 9) 0) ∧ (HTp (S' 7) (S' 9) 1) ∧ (HTp (S' 7) (S' 9) 2) ∧ (HTp (S' 7) (S' 9) 3)) (QB g ad 20) (FA ad 20)) 0 0 (FA ad 20) := by
  refine xmet cX12_copyShore "EbbWreckModel" (by decide) rfl (Nat.le_of_ble_eq_true rfl) (fun p e s m below meth c E hr hlk hml hQ ls hl => ?_)
  have hx := E.1
  have hb := E.2.1
  have hs : Sp ad 20 (FA ad 20) := Sp.fa hD
  have hl : lv_has ls 3 [(0, .ref (ad 0)), (1, .int 3), (2, .int 0)] := hl
  obtain ⟨f1, c2, b3⟩ := invM_7 hI
  obtain ⟨v4, ee5⟩ : ∃ z : Int32, f1 30 = z := ⟨_, rfl⟩
  have b6 : Bd v4 (0) (12) := (by rw [← ee5]; exact b3.1 30 (by decide))
  obtain ⟨v7, ee8⟩ : ∃ z : Int32, f1 0 = z := ⟨_, rfl⟩
  have b9 : Bd v7 (0) (12) := (by rw [← ee8]; exact b3.1 0 (by decide))
  obtain ⟨v10, ee11⟩ : ∃ z : Int32, f1 31 = z := ⟨_, rfl⟩
  have b12 : Bd v10 (0) (12) := (by rw [← ee11]; exact b3.2.1 31 (by decide))
  obtain ⟨v13, ee14⟩ : ∃ z : Int32, f1 1 = z := ⟨_, rfl⟩
  have b15 : Bd v13 (0) (12) := (by rw [← ee14]; exact b3.2.1 1 (by decide))
  obtain ⟨v16, ee17⟩ : ∃ z : Int32, f1 33 = z := ⟨_, rfl⟩
  have b18 : Bd v16 (0) (12) := (by rw [← ee17]; exact b3.2.2.2.1 33 (by decide))
  obtain ⟨v19, ee20⟩ : ∃ z : Int32, f1 3 = z := ⟨_, rfl⟩
  have b21 : Bd v19 (0) (12) := (by rw [← ee20]; exact b3.2.2.2.1 3 (by decide))
  obtain ⟨v22, ee23⟩ : ∃ z : Int32, f1 36 = z := ⟨_, rfl⟩
  have b24 : Bd v22 (0) (8) := (by rw [← ee23]; exact b3.2.2.2.2.1 36 (by decide))
  obtain ⟨v25, ee26⟩ : ∃ z : Int32, f1 6 = z := ⟨_, rfl⟩
  have b27 : Bd v25 (0) (8) := (by rw [← ee26]; exact b3.2.2.2.2.1 6 (by decide))
  obtain ⟨v28, ee29⟩ : ∃ z : Int32, f1 38 = z := ⟨_, rfl⟩
  have b30 : Bd v28 (0) (3) := (by rw [← ee29]; exact b3.2.2.2.2.2.2.1 38 (by decide))
  obtain ⟨v31, ee32⟩ : ∃ z : Int32, f1 8 = z := ⟨_, rfl⟩
  have b33 : Bd v31 (0) (3) := (by rw [← ee32]; exact b3.2.2.2.2.2.2.1 8 (by decide))
  obtain ⟨v34, ee35⟩ : ∃ z : Int32, f1 39 = z := ⟨_, rfl⟩
  have b36 : Bd v34 (0) (40) := (by rw [← ee35]; exact b3.2.2.2.2.2.2.2 39 (by decide))
  obtain ⟨v37, ee38⟩ : ∃ z : Int32, f1 9 = z := ⟨_, rfl⟩
  have b39 : Bd v37 (0) (40) := (by rw [← ee38]; exact b3.2.2.2.2.2.2.2 9 (by decide))
  obtain ⟨v40, ee41⟩ : ∃ z : Int32, f1 10 = z := ⟨_, rfl⟩
  have b42 : Bd v40 (0) (12) := (by rw [← ee41]; exact b3.1 10 (by decide))
  obtain ⟨v43, ee44⟩ : ∃ z : Int32, f1 11 = z := ⟨_, rfl⟩
  have b45 : Bd v43 (0) (12) := (by rw [← ee44]; exact b3.2.1 11 (by decide))
  obtain ⟨v46, ee47⟩ : ∃ z : Int32, f1 13 = z := ⟨_, rfl⟩
  have b48 : Bd v46 (0) (12) := (by rw [← ee47]; exact b3.2.2.2.1 13 (by decide))
  obtain ⟨v49, ee50⟩ : ∃ z : Int32, f1 16 = z := ⟨_, rfl⟩
  have b51 : Bd v49 (0) (8) := (by rw [← ee50]; exact b3.2.2.2.2.1 16 (by decide))
  obtain ⟨v52, ee53⟩ : ∃ z : Int32, f1 18 = z := ⟨_, rfl⟩
  have b54 : Bd v52 (0) (3) := (by rw [← ee53]; exact b3.2.2.2.2.2.2.1 18 (by decide))
  obtain ⟨v55, ee56⟩ : ∃ z : Int32, f1 19 = z := ⟨_, rfl⟩
  have b57 : Bd v55 (0) (40) := (by rw [← ee56]; exact b3.2.2.2.2.2.2.2 19 (by decide))
  obtain ⟨v58, ee59⟩ : ∃ z : Int32, f1 20 = z := ⟨_, rfl⟩
  have b60 : Bd v58 (0) (12) := (by rw [← ee59]; exact b3.1 20 (by decide))
  obtain ⟨v61, ee62⟩ : ∃ z : Int32, f1 21 = z := ⟨_, rfl⟩
  have b63 : Bd v61 (0) (12) := (by rw [← ee62]; exact b3.2.1 21 (by decide))
  obtain ⟨v64, ee65⟩ : ∃ z : Int32, f1 23 = z := ⟨_, rfl⟩
  have b66 : Bd v64 (0) (12) := (by rw [← ee65]; exact b3.2.2.2.1 23 (by decide))
  obtain ⟨v67, ee68⟩ : ∃ z : Int32, f1 26 = z := ⟨_, rfl⟩
  have b69 : Bd v67 (0) (8) := (by rw [← ee68]; exact b3.2.2.2.2.1 26 (by decide))
  obtain ⟨v70, ee71⟩ : ∃ z : Int32, f1 28 = z := ⟨_, rfl⟩
  have b72 : Bd v70 (0) (3) := (by rw [← ee71]; exact b3.2.2.2.2.2.2.1 28 (by decide))
  obtain ⟨v73, ee74⟩ : ∃ z : Int32, f1 29 = z := ⟨_, rfl⟩
  have b75 : Bd v73 (0) (40) := (by rw [← ee74]; exact b3.2.2.2.2.2.2.2 29 (by decide))
  obtain ⟨f76, c77, b78⟩ := invM_6 hI
  obtain ⟨v79, ee80⟩ : ∃ z : Int32, f76 3 = z := ⟨_, rfl⟩
  have b81 : Bd v79 (0) (40000) := (by rw [← ee80]; exact b78 3)
  obtain ⟨v82, ee83⟩ : ∃ z : Int32, f76 0 = z := ⟨_, rfl⟩
  have b84 : Bd v82 (0) (40000) := (by rw [← ee83]; exact b78 0)
  obtain ⟨v85, ee86⟩ : ∃ z : Int32, f76 1 = z := ⟨_, rfl⟩
  have b87 : Bd v85 (0) (40000) := (by rw [← ee86]; exact b78 1)
  obtain ⟨v88, ee89⟩ : ∃ z : Int32, f76 2 = z := ⟨_, rfl⟩
  have b90 : Bd v88 (0) (40000) := (by rw [← ee89]; exact b78 2)
  obtain ⟨f91, c92, b93⟩ := invM_12 hI
  obtain ⟨f94, c95, b96⟩ := invM_9 hI
  refine lv_aload_n hx hb dX12_copyShore_0 rfl (lv_at hl 0 rfl) ?_
  obtain ⟨v97, v98, v100, v102, v104, v105, w106, v107, v109, v110, v111, v112, v114, v116, v118, v120, v122, v123, v124, c125, b99, b101, b103, b108, b113, b115, b117, b119, b121⟩ := invM_0 hI
  have c125 : S 0 = .inr (12, [.int v97, .ref (ad 1), .ref (ad 2), .ref (ad 3), .ref (ad 4), .ref (ad 5), .int v98, .int v100, .int v102, .int v104, .int v105, .long w106, .int v107, .int v109, .int v110, .int v111, .ref (ad 6), .ref (ad 7), .ref (ad 8), .ref (ad 9), .ref (ad 10), .ref (ad 11), .ref (ad 12), .ref (ad 13), .ref (ad 14), .ref (ad 15), .int v112, .int v114, .ref (ad 16), .int v116, .int v118, .int v120, .int v122, .int v123, .ref (ad 17), .ref (ad 18), .int v124, .ref (ad 19)]) := c125
  refine xget E hQ 0 (by decide) c125 rfl 16 (by decide) q1484 rfl dX12_copyShore_1 ?_
  refine lv_iconst (v := 1) hx hb dX12_copyShore_4 (by decide) ?_
  refine lv_iload_n hx hb dX12_copyShore_5 rfl (lv_at hl 1 rfl) ?_
  refine lv_iload_n hx hb dX12_copyShore_6 rfl (lv_at hl 2 rfl) ?_
  refine xcSv E hs hQ hml hl.1 (uCopyRow l g ad 20 hD S 6 (by decide) 5 (by decide) f76 1 3 0 (by decide) (by decide) (by decide) c77) mX12_copyRow q1743 rfl ⟨(Nat.le_of_ble_eq_true rfl), (Nat.le_of_ble_eq_true rfl)⟩ ⟨(Nat.le_of_ble_eq_true rfl), (Nat.le_of_ble_eq_true rfl)⟩ (Nat.le_of_ble_eq_true rfl) rfl dX12_copyShore_7 (fun S126 H locs eS126 hQ => ?_)
  have hI := invM_up_6 hI eS126 ⟨_, rfl, cp_b b78⟩
  have b128 : ∀ j, Bd ((cpF f76 1 3 0 1) j) (0) (40000) := cp_b b78
  have c127 : S126 6 = .inl (g.2 0, 5, .inl (cpF f76 1 3 0 1)) := up_at eS126 rfl
  refine lv_aload_n hx hb dX12_copyShore_10 rfl (lv_at hl 0 rfl) ?_
  have c129 : S126 0 = .inr (12, [.int v97, .ref (ad 1), .ref (ad 2), .ref (ad 3), .ref (ad 4), .ref (ad 5), .int v98, .int v100, .int v102, .int v104, .int v105, .long w106, .int v107, .int v109, .int v110, .int v111, .ref (ad 6), .ref (ad 7), .ref (ad 8), .ref (ad 9), .ref (ad 10), .ref (ad 11), .ref (ad 12), .ref (ad 13), .ref (ad 14), .ref (ad 15), .int v112, .int v114, .ref (ad 16), .int v116, .int v118, .int v120, .int v122, .int v123, .ref (ad 17), .ref (ad 18), .int v124, .ref (ad 19)]) := (up_ne eS126 (by decide) c125)
  refine xget E hQ 0 (by decide) c129 rfl 17 (by decide) q1485 rfl dX12_copyShore_11 ?_
  refine lv_bipush (v := 10) hx hb dX12_copyShore_14 (by decide) ?_
  refine lv_iload_n hx hb dX12_copyShore_16 rfl (lv_at hl 1 rfl) ?_
  refine lv_iload_n hx hb dX12_copyShore_17 rfl (lv_at hl 2 rfl) ?_
  have c130 : S126 7 = .inl (g.2 0, 50, .inl f1) := (up_ne eS126 (by decide) c2)
  refine xcSv E hs hQ hml hl.1 (uCopyRow l g ad 20 hD S126 7 (by decide) 50 (by decide) f1 10 3 0 (by decide) (by decide) (by decide) c130) mX12_copyRow q1743 rfl ⟨(Nat.le_of_ble_eq_true rfl), (Nat.le_of_ble_eq_true rfl)⟩ ⟨(Nat.le_of_ble_eq_true rfl), (Nat.le_of_ble_eq_true rfl)⟩ (Nat.le_of_ble_eq_true rfl) rfl dX12_copyShore_18 (fun S131 H locs eS131 hQ => ?_)
  have hI := invM_up_7 hI eS131 ⟨_, rfl, ⟨cp_m (q := 1) b3.1 (by decide), cp_m (q := 1) b3.2.1 (by decide), cp_m (q := 1) b3.2.2.1 (by decide), cp_m (q := 1) b3.2.2.2.1 (by decide), cp_m (q := 1) b3.2.2.2.2.1 (by decide), cp_m (q := 1) b3.2.2.2.2.2.1 (by decide), cp_m (q := 1) b3.2.2.2.2.2.2.1 (by decide), cp_m (q := 1) b3.2.2.2.2.2.2.2 (by decide)⟩⟩
  have b133 : (∀ j, j % 10 = 0 → Bd ((cpF f1 10 3 0 10) j) (0) (12)) ∧ (∀ j, j % 10 = 1 → Bd ((cpF f1 10 3 0 10) j) (0) (12)) ∧ (∀ j, j % 10 = 2 → Bd ((cpF f1 10 3 0 10) j) (0) (6)) ∧ (∀ j, j % 10 = 3 → Bd ((cpF f1 10 3 0 10) j) (0) (12)) ∧ (∀ j, j % 10 = 6 → Bd ((cpF f1 10 3 0 10) j) (0) (8)) ∧ (∀ j, j % 10 = 7 → Bd ((cpF f1 10 3 0 10) j) (0) (6)) ∧ (∀ j, j % 10 = 8 → Bd ((cpF f1 10 3 0 10) j) (0) (3)) ∧ (∀ j, j % 10 = 9 → Bd ((cpF f1 10 3 0 10) j) (0) (40)) := ⟨cp_m (q := 1) b3.1 (by decide), cp_m (q := 1) b3.2.1 (by decide), cp_m (q := 1) b3.2.2.1 (by decide), cp_m (q := 1) b3.2.2.2.1 (by decide), cp_m (q := 1) b3.2.2.2.2.1 (by decide), cp_m (q := 1) b3.2.2.2.2.2.1 (by decide), cp_m (q := 1) b3.2.2.2.2.2.2.1 (by decide), cp_m (q := 1) b3.2.2.2.2.2.2.2 (by decide)⟩
  have c132 : S131 7 = .inl (g.2 0, 50, .inl (cpF f1 10 3 0 10)) := up_at eS131 rfl
  refine lv_aload_n hx hb dX12_copyShore_21 rfl (lv_at hl 0 rfl) ?_
  have c134 : S131 0 = .inr (12, [.int v97, .ref (ad 1), .ref (ad 2), .ref (ad 3), .ref (ad 4), .ref (ad 5), .int v98, .int v100, .int v102, .int v104, .int v105, .long w106, .int v107, .int v109, .int v110, .int v111, .ref (ad 6), .ref (ad 7), .ref (ad 8), .ref (ad 9), .ref (ad 10), .ref (ad 11), .ref (ad 12), .ref (ad 13), .ref (ad 14), .ref (ad 15), .int v112, .int v114, .ref (ad 16), .int v116, .int v118, .int v120, .int v122, .int v123, .ref (ad 17), .ref (ad 18), .int v124, .ref (ad 19)]) := (up_ne eS131 (by decide) c129)
  refine xget E hQ 0 (by decide) c134 rfl 18 (by decide) q1486 rfl dX12_copyShore_22 ?_
  refine lv_bipush (v := 24) hx hb dX12_copyShore_25 (by decide) ?_
  refine lv_iload_n hx hb dX12_copyShore_27 rfl (lv_at hl 1 rfl) ?_
  refine lv_iload_n hx hb dX12_copyShore_28 rfl (lv_at hl 2 rfl) ?_
  obtain ⟨f135, c136⟩ := invM_8 hI
  refine xcSv E hs hQ hml hl.1 (uCopyRow l g ad 20 hD S131 8 (by decide) 120 (by decide) f135 24 3 0 (by decide) (by decide) (by decide) c136) mX12_copyRow q1743 rfl ⟨(Nat.le_of_ble_eq_true rfl), (Nat.le_of_ble_eq_true rfl)⟩ ⟨(Nat.le_of_ble_eq_true rfl), (Nat.le_of_ble_eq_true rfl)⟩ (Nat.le_of_ble_eq_true rfl) rfl dX12_copyShore_29 (fun S138 H locs eS138 hQ => ?_)
  have hI := invM_up_8 hI eS138 ⟨_, rfl⟩
  have c139 : S138 8 = .inl (g.2 0, 120, .inl (cpF f135 24 3 0 24)) := up_at eS138 rfl
  refine lv_aload_n hx hb dX12_copyShore_32 rfl (lv_at hl 0 rfl) ?_
  have c140 : S138 0 = .inr (12, [.int v97, .ref (ad 1), .ref (ad 2), .ref (ad 3), .ref (ad 4), .ref (ad 5), .int v98, .int v100, .int v102, .int v104, .int v105, .long w106, .int v107, .int v109, .int v110, .int v111, .ref (ad 6), .ref (ad 7), .ref (ad 8), .ref (ad 9), .ref (ad 10), .ref (ad 11), .ref (ad 12), .ref (ad 13), .ref (ad 14), .ref (ad 15), .int v112, .int v114, .ref (ad 16), .int v116, .int v118, .int v120, .int v122, .int v123, .ref (ad 17), .ref (ad 18), .int v124, .ref (ad 19)]) := (up_ne eS138 (by decide) c134)
  refine xget E hQ 0 (by decide) c140 rfl 19 (by decide) q1487 rfl dX12_copyShore_33 ?_
  refine lv_bipush (v := 24) hx hb dX12_copyShore_36 (by decide) ?_
  refine lv_iload_n hx hb dX12_copyShore_38 rfl (lv_at hl 1 rfl) ?_
  refine lv_iload_n hx hb dX12_copyShore_39 rfl (lv_at hl 2 rfl) ?_
  have c141 : S138 9 = .inl (g.2 0, 120, .inl f94) := (up_ne eS138 (by decide) (up_ne eS131 (by decide) (up_ne eS126 (by decide) c95)))
  refine xcSv E hs hQ hml hl.1 (uCopyRow l g ad 20 hD S138 9 (by decide) 120 (by decide) f94 24 3 0 (by decide) (by decide) (by decide) c141) mX12_copyRow q1743 rfl ⟨(Nat.le_of_ble_eq_true rfl), (Nat.le_of_ble_eq_true rfl)⟩ ⟨(Nat.le_of_ble_eq_true rfl), (Nat.le_of_ble_eq_true rfl)⟩ (Nat.le_of_ble_eq_true rfl) rfl dX12_copyShore_40 (fun S142 H locs eS142 hQ => ?_)
  have hI := invM_up_9 hI eS142 ⟨_, rfl, ⟨cp_m (q := 8) b96.1 (by decide), cp_m (q := 8) b96.2 (by decide)⟩⟩
  have b144 : (∀ j, j % 3 = 1 → Bd ((cpF f94 24 3 0 24) j) (0) (11)) ∧ (∀ j, j % 3 = 2 → Bd ((cpF f94 24 3 0 24) j) (0) (99)) := ⟨cp_m (q := 8) b96.1 (by decide), cp_m (q := 8) b96.2 (by decide)⟩
  have c143 : S142 9 = .inl (g.2 0, 120, .inl (cpF f94 24 3 0 24)) := up_at eS142 rfl
  refine lv_aload_n hx hb dX12_copyShore_43 rfl (lv_at hl 0 rfl) ?_
  have c145 : S142 0 = .inr (12, [.int v97, .ref (ad 1), .ref (ad 2), .ref (ad 3), .ref (ad 4), .ref (ad 5), .int v98, .int v100, .int v102, .int v104, .int v105, .long w106, .int v107, .int v109, .int v110, .int v111, .ref (ad 6), .ref (ad 7), .ref (ad 8), .ref (ad 9), .ref (ad 10), .ref (ad 11), .ref (ad 12), .ref (ad 13), .ref (ad 14), .ref (ad 15), .int v112, .int v114, .ref (ad 16), .int v116, .int v118, .int v120, .int v122, .int v123, .ref (ad 17), .ref (ad 18), .int v124, .ref (ad 19)]) := (up_ne eS142 (by decide) c140)
  refine xget E hQ 0 (by decide) c145 rfl 20 (by decide) q1488 rfl dX12_copyShore_44 ?_
  refine lv_bipush (v := 24) hx hb dX12_copyShore_47 (by decide) ?_
  refine lv_iload_n hx hb dX12_copyShore_49 rfl (lv_at hl 1 rfl) ?_
  refine lv_iload_n hx hb dX12_copyShore_50 rfl (lv_at hl 2 rfl) ?_
  obtain ⟨f146, c147⟩ := invM_10 hI
  refine xcSv E hs hQ hml hl.1 (uCopyRow l g ad 20 hD S142 10 (by decide) 120 (by decide) f146 24 3 0 (by decide) (by decide) (by decide) c147) mX12_copyRow q1743 rfl ⟨(Nat.le_of_ble_eq_true rfl), (Nat.le_of_ble_eq_true rfl)⟩ ⟨(Nat.le_of_ble_eq_true rfl), (Nat.le_of_ble_eq_true rfl)⟩ (Nat.le_of_ble_eq_true rfl) rfl dX12_copyShore_51 (fun S149 H locs eS149 hQ => ?_)
  have hI := invM_up_10 hI eS149 ⟨_, rfl⟩
  have c150 : S149 10 = .inl (g.2 0, 120, .inl (cpF f146 24 3 0 24)) := up_at eS149 rfl
  refine lv_aload_n hx hb dX12_copyShore_54 rfl (lv_at hl 0 rfl) ?_
  have c151 : S149 0 = .inr (12, [.int v97, .ref (ad 1), .ref (ad 2), .ref (ad 3), .ref (ad 4), .ref (ad 5), .int v98, .int v100, .int v102, .int v104, .int v105, .long w106, .int v107, .int v109, .int v110, .int v111, .ref (ad 6), .ref (ad 7), .ref (ad 8), .ref (ad 9), .ref (ad 10), .ref (ad 11), .ref (ad 12), .ref (ad 13), .ref (ad 14), .ref (ad 15), .int v112, .int v114, .ref (ad 16), .int v116, .int v118, .int v120, .int v122, .int v123, .ref (ad 17), .ref (ad 18), .int v124, .ref (ad 19)]) := (up_ne eS149 (by decide) c145)
  refine xget E hQ 0 (by decide) c151 rfl 21 (by decide) q1489 rfl dX12_copyShore_55 ?_
  refine lv_iconst (v := 3) hx hb dX12_copyShore_58 (by decide) ?_
  refine lv_iload_n hx hb dX12_copyShore_59 rfl (lv_at hl 1 rfl) ?_
  refine lv_iload_n hx hb dX12_copyShore_60 rfl (lv_at hl 2 rfl) ?_
  obtain ⟨f152, c153, b154⟩ := invM_11 hI
  refine xcSv E hs hQ hml hl.1 (uCopyRow l g ad 20 hD S149 11 (by decide) 15 (by decide) f152 3 3 0 (by decide) (by decide) (by decide) c153) mX12_copyRow q1743 rfl ⟨(Nat.le_of_ble_eq_true rfl), (Nat.le_of_ble_eq_true rfl)⟩ ⟨(Nat.le_of_ble_eq_true rfl), (Nat.le_of_ble_eq_true rfl)⟩ (Nat.le_of_ble_eq_true rfl) rfl dX12_copyShore_61 (fun S155 H locs eS155 hQ => ?_)
  have hI := invM_up_11 hI eS155 ⟨_, rfl, cp_b b154⟩
  have b157 : ∀ j, Bd ((cpF f152 3 3 0 3) j) (0) (11) := cp_b b154
  have c156 : S155 11 = .inl (g.2 0, 15, .inl (cpF f152 3 3 0 3)) := up_at eS155 rfl
  refine lv_aload_n hx hb dX12_copyShore_64 rfl (lv_at hl 0 rfl) ?_
  have c158 : S155 0 = .inr (12, [.int v97, .ref (ad 1), .ref (ad 2), .ref (ad 3), .ref (ad 4), .ref (ad 5), .int v98, .int v100, .int v102, .int v104, .int v105, .long w106, .int v107, .int v109, .int v110, .int v111, .ref (ad 6), .ref (ad 7), .ref (ad 8), .ref (ad 9), .ref (ad 10), .ref (ad 11), .ref (ad 12), .ref (ad 13), .ref (ad 14), .ref (ad 15), .int v112, .int v114, .ref (ad 16), .int v116, .int v118, .int v120, .int v122, .int v123, .ref (ad 17), .ref (ad 18), .int v124, .ref (ad 19)]) := (up_ne eS155 (by decide) c151)
  refine xget E hQ 0 (by decide) c158 rfl 22 (by decide) q1490 rfl dX12_copyShore_65 ?_
  refine lv_sipush (v := 160) hx hb dX12_copyShore_68 (by decide) ?_
  refine lv_iload_n hx hb dX12_copyShore_71 rfl (lv_at hl 1 rfl) ?_
  refine lv_iload_n hx hb dX12_copyShore_72 rfl (lv_at hl 2 rfl) ?_
  have c159 : S155 12 = .inl (g.2 0, 800, .inl f91) := (up_ne eS155 (by decide) (up_ne eS149 (by decide) (up_ne eS142 (by decide) (up_ne eS138 (by decide) (up_ne eS131 (by decide) (up_ne eS126 (by decide) c92))))))
  refine xcSv E hs hQ hml hl.1 (uCopyRow l g ad 20 hD S155 12 (by decide) 800 (by decide) f91 160 3 0 (by decide) (by decide) (by decide) c159) mX12_copyRow q1743 rfl ⟨(Nat.le_of_ble_eq_true rfl), (Nat.le_of_ble_eq_true rfl)⟩ ⟨(Nat.le_of_ble_eq_true rfl), (Nat.le_of_ble_eq_true rfl)⟩ (Nat.le_of_ble_eq_true rfl) rfl dX12_copyShore_73 (fun S160 H locs eS160 hQ => ?_)
  have hI := invM_up_12 hI eS160 ⟨_, rfl, ⟨cp_m (q := 40) b93.1 (by decide), cp_m (q := 40) b93.2 (by decide)⟩⟩
  have b162 : (∀ j, j % 4 = 1 → Bd ((cpF f91 160 3 0 160) j) (0) (7)) ∧ (∀ j, j % 4 = 2 → Bd ((cpF f91 160 3 0 160) j) (0) (400)) := ⟨cp_m (q := 40) b93.1 (by decide), cp_m (q := 40) b93.2 (by decide)⟩
  have c161 : S160 12 = .inl (g.2 0, 800, .inl (cpF f91 160 3 0 160)) := up_at eS160 rfl
  have q163 : elm (S 7) 30 = v4.toInt := (elm_of c2 30).trans (congrArg Int32.toInt (ee5))
  have c164 : S160 7 = .inl (g.2 0, 50, .inl (cpF f1 10 3 0 10)) := (up_ne eS160 (by decide) (up_ne eS155 (by decide) (up_ne eS149 (by decide) (up_ne eS142 (by decide) (up_ne eS138 (by decide) c132)))))
  have q165 : elm (S160 7) 0 = v4.toInt := (elm_of c164 0).trans (congrArg Int32.toInt (((show cpF f1 10 3 0 10 0 = f1 30 from rfl).trans (ee5))))
  have q166 : elm (S 7) 31 = v10.toInt := (elm_of c2 31).trans (congrArg Int32.toInt (ee11))
  have q167 : elm (S160 7) 1 = v10.toInt := (elm_of c164 1).trans (congrArg Int32.toInt (((show cpF f1 10 3 0 10 1 = f1 31 from rfl).trans (ee11))))
  have q168 : elm (S 7) 33 = v16.toInt := (elm_of c2 33).trans (congrArg Int32.toInt (ee17))
  have q169 : elm (S160 7) 3 = v16.toInt := (elm_of c164 3).trans (congrArg Int32.toInt (((show cpF f1 10 3 0 10 3 = f1 33 from rfl).trans (ee17))))
  have q170 : elm (S 7) 36 = v22.toInt := (elm_of c2 36).trans (congrArg Int32.toInt (ee23))
  have q171 : elm (S160 7) 6 = v22.toInt := (elm_of c164 6).trans (congrArg Int32.toInt (((show cpF f1 10 3 0 10 6 = f1 36 from rfl).trans (ee23))))
  have q172 : elm (S 7) 38 = v28.toInt := (elm_of c2 38).trans (congrArg Int32.toInt (ee29))
  have q173 : elm (S160 7) 8 = v28.toInt := (elm_of c164 8).trans (congrArg Int32.toInt (((show cpF f1 10 3 0 10 8 = f1 38 from rfl).trans (ee29))))
  have q174 : elm (S 7) 39 = v34.toInt := (elm_of c2 39).trans (congrArg Int32.toInt (ee35))
  have q175 : elm (S160 7) 9 = v34.toInt := (elm_of c164 9).trans (congrArg Int32.toInt (((show cpF f1 10 3 0 10 9 = f1 39 from rfl).trans (ee35))))
  have q176 : elm (S 7) 10 = v40.toInt := (elm_of c2 10).trans (congrArg Int32.toInt (ee41))
  have q177 : elm (S160 7) 10 = v40.toInt := (elm_of c164 10).trans (congrArg Int32.toInt (((show cpF f1 10 3 0 10 10 = f1 10 from rfl).trans (ee41))))
  have q178 : elm (S 7) 11 = v43.toInt := (elm_of c2 11).trans (congrArg Int32.toInt (ee44))
  have q179 : elm (S160 7) 11 = v43.toInt := (elm_of c164 11).trans (congrArg Int32.toInt (((show cpF f1 10 3 0 10 11 = f1 11 from rfl).trans (ee44))))
  have q180 : elm (S 7) 13 = v46.toInt := (elm_of c2 13).trans (congrArg Int32.toInt (ee47))
  have q181 : elm (S160 7) 13 = v46.toInt := (elm_of c164 13).trans (congrArg Int32.toInt (((show cpF f1 10 3 0 10 13 = f1 13 from rfl).trans (ee47))))
  have q182 : elm (S 7) 16 = v49.toInt := (elm_of c2 16).trans (congrArg Int32.toInt (ee50))
  have q183 : elm (S160 7) 16 = v49.toInt := (elm_of c164 16).trans (congrArg Int32.toInt (((show cpF f1 10 3 0 10 16 = f1 16 from rfl).trans (ee50))))
  have q184 : elm (S 7) 18 = v52.toInt := (elm_of c2 18).trans (congrArg Int32.toInt (ee53))
  have q185 : elm (S160 7) 18 = v52.toInt := (elm_of c164 18).trans (congrArg Int32.toInt (((show cpF f1 10 3 0 10 18 = f1 18 from rfl).trans (ee53))))
  have q186 : elm (S 7) 19 = v55.toInt := (elm_of c2 19).trans (congrArg Int32.toInt (ee56))
  have q187 : elm (S160 7) 19 = v55.toInt := (elm_of c164 19).trans (congrArg Int32.toInt (((show cpF f1 10 3 0 10 19 = f1 19 from rfl).trans (ee56))))
  have q188 : elm (S 7) 20 = v58.toInt := (elm_of c2 20).trans (congrArg Int32.toInt (ee59))
  have q189 : elm (S160 7) 20 = v58.toInt := (elm_of c164 20).trans (congrArg Int32.toInt (((show cpF f1 10 3 0 10 20 = f1 20 from rfl).trans (ee59))))
  have q190 : elm (S 7) 21 = v61.toInt := (elm_of c2 21).trans (congrArg Int32.toInt (ee62))
  have q191 : elm (S160 7) 21 = v61.toInt := (elm_of c164 21).trans (congrArg Int32.toInt (((show cpF f1 10 3 0 10 21 = f1 21 from rfl).trans (ee62))))
  have q192 : elm (S 7) 23 = v64.toInt := (elm_of c2 23).trans (congrArg Int32.toInt (ee65))
  have q193 : elm (S160 7) 23 = v64.toInt := (elm_of c164 23).trans (congrArg Int32.toInt (((show cpF f1 10 3 0 10 23 = f1 23 from rfl).trans (ee65))))
  have q194 : elm (S 7) 26 = v67.toInt := (elm_of c2 26).trans (congrArg Int32.toInt (ee68))
  have q195 : elm (S160 7) 26 = v67.toInt := (elm_of c164 26).trans (congrArg Int32.toInt (((show cpF f1 10 3 0 10 26 = f1 26 from rfl).trans (ee68))))
  have q196 : elm (S 7) 28 = v70.toInt := (elm_of c2 28).trans (congrArg Int32.toInt (ee71))
  have q197 : elm (S160 7) 28 = v70.toInt := (elm_of c164 28).trans (congrArg Int32.toInt (((show cpF f1 10 3 0 10 28 = f1 28 from rfl).trans (ee71))))
  have q198 : elm (S 7) 29 = v73.toInt := (elm_of c2 29).trans (congrArg Int32.toInt (ee74))
  have q199 : elm (S160 7) 29 = v73.toInt := (elm_of c164 29).trans (congrArg Int32.toInt (((show cpF f1 10 3 0 10 29 = f1 29 from rfl).trans (ee74))))
  have q200 : elm (S160 7) 30 = v4.toInt := (elm_of c164 30).trans (congrArg Int32.toInt (((show cpF f1 10 3 0 10 30 = f1 30 from rfl).trans (ee5))))
  have q201 : elm (S160 7) 31 = v10.toInt := (elm_of c164 31).trans (congrArg Int32.toInt (((show cpF f1 10 3 0 10 31 = f1 31 from rfl).trans (ee11))))
  have q202 : elm (S160 7) 33 = v16.toInt := (elm_of c164 33).trans (congrArg Int32.toInt (((show cpF f1 10 3 0 10 33 = f1 33 from rfl).trans (ee17))))
  have q203 : elm (S160 7) 36 = v22.toInt := (elm_of c164 36).trans (congrArg Int32.toInt (((show cpF f1 10 3 0 10 36 = f1 36 from rfl).trans (ee23))))
  have q204 : elm (S160 7) 38 = v28.toInt := (elm_of c164 38).trans (congrArg Int32.toInt (((show cpF f1 10 3 0 10 38 = f1 38 from rfl).trans (ee29))))
  have q205 : elm (S160 7) 39 = v34.toInt := (elm_of c164 39).trans (congrArg Int32.toInt (((show cpF f1 10 3 0 10 39 = f1 39 from rfl).trans (ee35))))
  have q206 : elm (S 6) 3 = v79.toInt := (elm_of c77 3).trans (congrArg Int32.toInt (ee80))
  have c207 : S160 6 = .inl (g.2 0, 5, .inl (cpF f76 1 3 0 1)) := (up_ne eS160 (by decide) (up_ne eS155 (by decide) (up_ne eS149 (by decide) (up_ne eS142 (by decide) (up_ne eS138 (by decide) (up_ne eS131 (by decide) c127))))))
  have q208 : elm (S160 6) 0 = v79.toInt := (elm_of c207 0).trans (congrArg Int32.toInt (((show cpF f76 1 3 0 1 0 = f76 3 from rfl).trans (ee80))))
  have q209 : elm (S 6) 1 = v85.toInt := (elm_of c77 1).trans (congrArg Int32.toInt (ee86))
  have q210 : elm (S160 6) 1 = v85.toInt := (elm_of c207 1).trans (congrArg Int32.toInt (((show cpF f76 1 3 0 1 1 = f76 1 from rfl).trans (ee86))))
  have q211 : elm (S 6) 2 = v88.toInt := (elm_of c77 2).trans (congrArg Int32.toInt (ee89))
  have q212 : elm (S160 6) 2 = v88.toInt := (elm_of c207 2).trans (congrArg Int32.toInt (((show cpF f76 1 3 0 1 2 = f76 2 from rfl).trans (ee89))))
  have q213 : elm (S160 6) 3 = v79.toInt := (elm_of c207 3).trans (congrArg Int32.toInt (((show cpF f76 1 3 0 1 3 = f76 3 from rfl).trans (ee80))))
  have c214 : S160 9 = .inl (g.2 0, 120, .inl (cpF f94 24 3 0 24)) := (up_ne eS160 (by decide) (up_ne eS155 (by decide) (up_ne eS149 (by decide) c143)))
  exact xrv E hr hlk hQ (⟨hI, (up_o (up_o (up_o (up_o (up_o (up_o (up_o o_refl eS126 (by decide)) eS131 (by decide)) eS138 (by decide)) eS142 (by decide)) eS149 (by decide)) eS155 (by decide)) eS160 (by decide)), ⟨by omega, by omega⟩, ⟨by omega, by omega⟩, ⟨by omega, by omega⟩, ⟨by omega, by omega⟩, ⟨by omega, by omega⟩, ⟨by omega, by omega⟩, ⟨by omega, by omega⟩, ⟨by omega, by omega⟩, ⟨by omega, by omega⟩, ⟨by omega, by omega⟩, ⟨by omega, by omega⟩, ⟨by omega, by omega⟩, ⟨by omega, by omega⟩, ⟨by omega, by omega⟩, ⟨by omega, by omega⟩, ⟨by omega, by omega⟩, ⟨by omega, by omega⟩, ⟨by omega, by omega⟩, ⟨by omega, by omega⟩, ⟨by omega, by omega⟩, ⟨by omega, by omega⟩, ⟨by omega, by omega⟩, ⟨by omega, by omega⟩, ⟨by omega, by omega⟩, ⟨by omega, by omega⟩, ⟨by omega, by omega⟩, ⟨by omega, by omega⟩, ⟨by omega, by omega⟩, (at_cpb c2 c92 c164 c161 b3.2.2.2.2.2.2.2 hAT3), (at_cpo c2 c92 c164 c161 b3.2.2.2.2.2.2.2 (by decide) hAT1), (at_cpo c2 c92 c164 c161 b3.2.2.2.2.2.2.2 (by decide) hAT2), (at_cpo c2 c92 c164 c161 b3.2.2.2.2.2.2.2 (by decide) hAT3), (ht_cpb c2 c95 c164 c214 b3.2.2.2.2.1 hHT3), (ht_cpo c2 c95 c164 c214 b3.2.2.2.2.1 (by decide) hHT1), (ht_cpo c2 c95 c164 c214 b3.2.2.2.2.1 (by decide) hHT2), (ht_cpo c2 c95 c164 c214 b3.2.2.2.2.1 (by decide) hHT3)⟩) dX12_copyShore_76
set_option maxHeartbeats 4000000 in
set_option maxRecDepth 100000 in
theorem gX12_acts_0 (l : Launch) (g : GG) (ad : Nat → Nat) (hD : Dj ad 20) (S : SS) (hI : InvM g ad S) (a1 : Int32) (a2 : Int32) (a3 : Int32) (a4 : Int32) (ba1 : Bd a1 (0) (1)) (ba2 : Bd a2 (0) (7)) (ba3 : Bd a3 (0) (400)) (ba4 : Bd a4 (0) (1)) (hq1 : 0 ≤ (-1) * elm (S 7) 9 + 39) (hAT0 : ATp (S 7) (S 12) 0) (hAT1 : ATp (S 7) (S 12) 1) (hAT2 : ATp (S 7) (S 12) 2) (hAT3 : ATp (S 7) (S 12) 3) (hw : a1.toInt = 0 → a2.toInt ≤ 2 ∧ a3.toInt ≤ 11) : Met l yX12_acts (wG (.code yX12_acts cX12_acts 6 none)) (Rm 0) (XPre g ad 20 S [.ref (ad 0), .int a1, .int a2, .int a3, .int a4]) (va_Qv (fun S' => InvM g ad S' ∧ (∀ j, j ∉ ([7, 12] : List Nat) → S' j = S j) ∧ (0 ≤ elm (S 7) 9 + (-1) * elm (S' 7) 9 + 1 ∧ 0 ≤ elm (S' 7) 9 + (-1) * elm (S 7) 9 + (-1)) ∧ (0 ≤ elm (S 7) 0 + (-1) * elm (S' 7) 0 ∧ 0 ≤ elm (S' 7) 0 + (-1) * elm (S 7) 0) ∧ (0 ≤ elm (S 7) 1 + (-1) * elm (S' 7) 1 ∧ 0 ≤ elm (S' 7) 1 + (-1) * elm (S 7) 1) ∧ (0 ≤ elm (S 7) 3 + (-1) * elm (S' 7) 3 ∧ 0 ≤ elm (S' 7) 3 + (-1) * elm (S 7) 3) ∧ (0 ≤ elm (S 7) 6 + (-1) * elm (S' 7) 6 ∧ 0 ≤ elm (S' 7) 6 + (-1) * elm (S 7) 6) ∧ (0 ≤ elm (S 7) 8 + (-1) * elm (S' 7) 8 ∧ 0 ≤ elm (S' 7) 8 + (-1) * elm (S 7) 8) ∧ (0 ≤ elm (S 7) 10 + (-1) * elm (S' 7) 10 ∧ 0 ≤ elm (S' 7) 10 + (-1) * elm (S 7) 10) ∧ (0 ≤ elm (S 7) 11 + (-1) * elm (S' 7) 11 ∧ 0 ≤ elm (S' 7) 11 + (-1) * elm (S 7) 11) ∧ (0 ≤ elm (S 7) 13 + (-1) * elm (S' 7) 13 ∧ 0 ≤ elm (S' 7) 13 + (-1) * elm (S 7) 13) ∧ (0 ≤ elm (S 7) 16 + (-1) * elm (S' 7) 16 ∧ 0 ≤ elm (S' 7) 16 + (-1) * elm (S 7) 16) ∧ (0 ≤ elm (S 7) 18 + (-1) * elm (S' 7) 18 ∧ 0 ≤ elm (S' 7) 18 + (-1) * elm (S 7) 18) ∧ (0 ≤ elm (S 7) 19 + (-1) * elm (S' 7) 19 ∧ 0 ≤ elm (S' 7) 19 + (-1) * elm (S 7) 19) ∧ (0 ≤ elm (S 7) 20 + (-1) * elm (S' 7) 20 ∧ 0 ≤ elm (S' 7) 20 + (-1) * elm (S 7) 20) ∧ (0 ≤ elm (S 7) 21 + (-1) * elm (S' 7) 21 ∧ 0 ≤ elm (S' 7) 21 + (-1) * elm (S 7) 21) ∧ (0 ≤ elm (S 7) 23 + (-1) * elm (S' 7) 23 ∧ 0 ≤ elm (S' 7) 23 + (-1) * elm (S 7) 23) ∧ (0 ≤ elm (S 7) 26 + (-1) * elm (S' 7) 26 ∧ 0 ≤ elm (S' 7) 26 + (-1) * elm (S 7) 26) ∧ (0 ≤ elm (S 7) 28 + (-1) * elm (S' 7) 28 ∧ 0 ≤ elm (S' 7) 28 + (-1) * elm (S 7) 28) ∧ (0 ≤ elm (S 7) 29 + (-1) * elm (S' 7) 29 ∧ 0 ≤ elm (S' 7) 29 + (-1) * elm (S 7) 29) ∧ (0 ≤ elm (S 7) 30 + (-1) * elm (S' 7) 30 ∧ 0 ≤ elm (S' 7) 30 + (-1) * elm (S 7) 30) ∧ (0 ≤ elm (S 7) 31 + (-1) * elm (S' 7) 31 ∧ 0 ≤ elm (S' 7) 31 + (-1) * elm (S 7) 31) ∧ (0 ≤ elm (S 7) 33 + (-1) * elm (S' 7) 33 ∧ 0 ≤ elm (S' 7) 33 + (-1) * elm (S 7) 33) ∧ (0 ≤ elm (S 7) 36 + (-1) * elm (S' 7) 36 ∧ 0 ≤ elm (S' 7) 36 + (-1) * elm (S 7) 36) ∧ (0 ≤ elm (S 7) 38 + (-1) * elm (S' 7) 38 ∧ 0 ≤ elm (S' 7) 38 + (-1) * elm (S 7) 38) ∧ (0 ≤ elm (S 7) 39 + (-1) * elm (S' 7) 39 ∧ 0 ≤ elm (S' 7) 39 + (-1) * elm (S 7) 39) ∧ (ATp (S' 7) (S' 12) 0) ∧ (ATp (S' 7) (S' 12) 1) ∧ (ATp (S' 7) (S' 12) 2) ∧ (ATp (S' 7) (S' 12) 3)) (QB g ad 20) (FA ad 20)) 0 0 (FA ad 20) := by
  refine xmet cX12_acts "EbbWreckModel" (by decide) rfl (Nat.le_of_ble_eq_true rfl) (fun p e s m below meth c E hr hlk hml hQ ls hl => ?_)
  have hx := E.1
  have hb := E.2.1
  have hs : Sp ad 20 (FA ad 20) := Sp.fa hD
  have hl : lv_has ls 6 [(0, .ref (ad 0)), (1, .int a1), (2, .int a2), (3, .int a3), (4, .int a4)] := hl
  obtain ⟨f1, c2, b3⟩ := invM_7 hI
  obtain ⟨v4, ee5⟩ : ∃ z : Int32, f1 9 = z := ⟨_, rfl⟩
  have b6 : Bd v4 (0) (40) := (by rw [← ee5]; exact b3.2.2.2.2.2.2.2 9 (by decide))
  obtain ⟨v7, ee8⟩ : ∃ z : Int32, f1 0 = z := ⟨_, rfl⟩
  have b9 : Bd v7 (0) (12) := (by rw [← ee8]; exact b3.1 0 (by decide))
  obtain ⟨v10, ee11⟩ : ∃ z : Int32, f1 1 = z := ⟨_, rfl⟩
  have b12 : Bd v10 (0) (12) := (by rw [← ee11]; exact b3.2.1 1 (by decide))
  obtain ⟨v13, ee14⟩ : ∃ z : Int32, f1 3 = z := ⟨_, rfl⟩
  have b15 : Bd v13 (0) (12) := (by rw [← ee14]; exact b3.2.2.2.1 3 (by decide))
  obtain ⟨v16, ee17⟩ : ∃ z : Int32, f1 6 = z := ⟨_, rfl⟩
  have b18 : Bd v16 (0) (8) := (by rw [← ee17]; exact b3.2.2.2.2.1 6 (by decide))
  obtain ⟨v19, ee20⟩ : ∃ z : Int32, f1 8 = z := ⟨_, rfl⟩
  have b21 : Bd v19 (0) (3) := (by rw [← ee20]; exact b3.2.2.2.2.2.2.1 8 (by decide))
  obtain ⟨v22, ee23⟩ : ∃ z : Int32, f1 10 = z := ⟨_, rfl⟩
  have b24 : Bd v22 (0) (12) := (by rw [← ee23]; exact b3.1 10 (by decide))
  obtain ⟨v25, ee26⟩ : ∃ z : Int32, f1 11 = z := ⟨_, rfl⟩
  have b27 : Bd v25 (0) (12) := (by rw [← ee26]; exact b3.2.1 11 (by decide))
  obtain ⟨v28, ee29⟩ : ∃ z : Int32, f1 13 = z := ⟨_, rfl⟩
  have b30 : Bd v28 (0) (12) := (by rw [← ee29]; exact b3.2.2.2.1 13 (by decide))
  obtain ⟨v31, ee32⟩ : ∃ z : Int32, f1 16 = z := ⟨_, rfl⟩
  have b33 : Bd v31 (0) (8) := (by rw [← ee32]; exact b3.2.2.2.2.1 16 (by decide))
  obtain ⟨v34, ee35⟩ : ∃ z : Int32, f1 18 = z := ⟨_, rfl⟩
  have b36 : Bd v34 (0) (3) := (by rw [← ee35]; exact b3.2.2.2.2.2.2.1 18 (by decide))
  obtain ⟨v37, ee38⟩ : ∃ z : Int32, f1 19 = z := ⟨_, rfl⟩
  have b39 : Bd v37 (0) (40) := (by rw [← ee38]; exact b3.2.2.2.2.2.2.2 19 (by decide))
  obtain ⟨v40, ee41⟩ : ∃ z : Int32, f1 20 = z := ⟨_, rfl⟩
  have b42 : Bd v40 (0) (12) := (by rw [← ee41]; exact b3.1 20 (by decide))
  obtain ⟨v43, ee44⟩ : ∃ z : Int32, f1 21 = z := ⟨_, rfl⟩
  have b45 : Bd v43 (0) (12) := (by rw [← ee44]; exact b3.2.1 21 (by decide))
  obtain ⟨v46, ee47⟩ : ∃ z : Int32, f1 23 = z := ⟨_, rfl⟩
  have b48 : Bd v46 (0) (12) := (by rw [← ee47]; exact b3.2.2.2.1 23 (by decide))
  obtain ⟨v49, ee50⟩ : ∃ z : Int32, f1 26 = z := ⟨_, rfl⟩
  have b51 : Bd v49 (0) (8) := (by rw [← ee50]; exact b3.2.2.2.2.1 26 (by decide))
  obtain ⟨v52, ee53⟩ : ∃ z : Int32, f1 28 = z := ⟨_, rfl⟩
  have b54 : Bd v52 (0) (3) := (by rw [← ee53]; exact b3.2.2.2.2.2.2.1 28 (by decide))
  obtain ⟨v55, ee56⟩ : ∃ z : Int32, f1 29 = z := ⟨_, rfl⟩
  have b57 : Bd v55 (0) (40) := (by rw [← ee56]; exact b3.2.2.2.2.2.2.2 29 (by decide))
  obtain ⟨v58, ee59⟩ : ∃ z : Int32, f1 30 = z := ⟨_, rfl⟩
  have b60 : Bd v58 (0) (12) := (by rw [← ee59]; exact b3.1 30 (by decide))
  obtain ⟨v61, ee62⟩ : ∃ z : Int32, f1 31 = z := ⟨_, rfl⟩
  have b63 : Bd v61 (0) (12) := (by rw [← ee62]; exact b3.2.1 31 (by decide))
  obtain ⟨v64, ee65⟩ : ∃ z : Int32, f1 33 = z := ⟨_, rfl⟩
  have b66 : Bd v64 (0) (12) := (by rw [← ee65]; exact b3.2.2.2.1 33 (by decide))
  obtain ⟨v67, ee68⟩ : ∃ z : Int32, f1 36 = z := ⟨_, rfl⟩
  have b69 : Bd v67 (0) (8) := (by rw [← ee68]; exact b3.2.2.2.2.1 36 (by decide))
  obtain ⟨v70, ee71⟩ : ∃ z : Int32, f1 38 = z := ⟨_, rfl⟩
  have b72 : Bd v70 (0) (3) := (by rw [← ee71]; exact b3.2.2.2.2.2.2.1 38 (by decide))
  obtain ⟨v73, ee74⟩ : ∃ z : Int32, f1 39 = z := ⟨_, rfl⟩
  have b75 : Bd v73 (0) (40) := (by rw [← ee74]; exact b3.2.2.2.2.2.2.2 39 (by decide))
  have q76 : elm (S 7) 9 = v4.toInt := (elm_of c2 9).trans (congrArg Int32.toInt (ee5))
  have b77 : Bd v4 (0) (39) := ⟨(b6).1, by omega⟩
  obtain ⟨f78, c79, b80⟩ := invM_12 hI
  obtain ⟨f81, c82, b83⟩ := invM_9 hI
  obtain ⟨f84, c85, b86⟩ := invM_6 hI
  obtain ⟨v87, ee88⟩ : ∃ z : Int32, f84 0 = z := ⟨_, rfl⟩
  have b89 : Bd v87 (0) (40000) := (by rw [← ee88]; exact b86 0)
  obtain ⟨v90, ee91⟩ : ∃ z : Int32, f84 1 = z := ⟨_, rfl⟩
  have b92 : Bd v90 (0) (40000) := (by rw [← ee91]; exact b86 1)
  obtain ⟨v93, ee94⟩ : ∃ z : Int32, f84 2 = z := ⟨_, rfl⟩
  have b95 : Bd v93 (0) (40000) := (by rw [← ee94]; exact b86 2)
  obtain ⟨v96, ee97⟩ : ∃ z : Int32, f84 3 = z := ⟨_, rfl⟩
  have b98 : Bd v96 (0) (40000) := (by rw [← ee97]; exact b86 3)
  refine lv_iconst (v := 4) hx hb dX12_acts_0 (by decide) ?_
  refine lv_aload_n hx hb dX12_acts_1 rfl (lv_at hl 0 rfl) ?_
  obtain ⟨v99, v100, v102, v104, v106, v107, w108, v109, v111, v112, v113, v114, v116, v118, v120, v122, v124, v125, v126, c127, b101, b103, b105, b110, b115, b117, b119, b121, b123⟩ := invM_0 hI
  have c127 : S 0 = .inr (12, [.int v99, .ref (ad 1), .ref (ad 2), .ref (ad 3), .ref (ad 4), .ref (ad 5), .int v100, .int v102, .int v104, .int v106, .int v107, .long w108, .int v109, .int v111, .int v112, .int v113, .ref (ad 6), .ref (ad 7), .ref (ad 8), .ref (ad 9), .ref (ad 10), .ref (ad 11), .ref (ad 12), .ref (ad 13), .ref (ad 14), .ref (ad 15), .int v114, .int v116, .ref (ad 16), .int v118, .int v120, .int v122, .int v124, .int v125, .ref (ad 17), .ref (ad 18), .int v126, .ref (ad 19)]) := c127
  refine xget E hQ 0 (by decide) c127 rfl 17 (by decide) q1485 rfl dX12_acts_2 ?_
  refine lv_bipush (v := 9) hx hb dX12_acts_5 (by decide) ?_
  refine xiald E hQ 7 (by decide) c2 (vp_in_lit 9 50 (by decide)) dX12_acts_7 ?_
  refine sb_at (P := fun z => W _ _ _ _ _ _ _ _ _ _ _ _ _ _ _ (F0 _ _ _ (.int z :: _))) (show f1 (9 : Int32).toNatClampNeg = v4 from ee5) ?_
  refine lv_imul hx hb dX12_acts_8 ?_
  refine lv_topi (fun z128 e129 => ?_)
  have t130 := ib_cmul (q := 4) e129 (by decide) (by decide) b77 (by decide) (by decide)
  have b131 : Bd z128 (0) (156) := ib_mulb t130 (by decide) b77
  refine lv_istore (lv' := [(5, .int z128), (0, .ref (ad 0)), (1, .int a1), (2, .int a2), (3, .int a3), (4, .int a4)]) hx hb dX12_acts_9 hl (by decide) rfl (fun ls hl => ?_)
  refine lv_aload_n hx hb dX12_acts_11 rfl (lv_at hl 1 rfl) ?_
  refine xget E hQ 0 (by decide) c127 rfl 22 (by decide) q1490 rfl dX12_acts_12 ?_
  refine lv_iload hx hb dX12_acts_15 (lv_at hl 0 rfl) ?_
  refine lv_iload_n hx hb dX12_acts_17 rfl (lv_at hl 2 rfl) ?_
  refine xiast E hs hQ 12 (by decide) c79 (ib_in b131 (by decide) (by decide)) dX12_acts_18 (fun H locs S132 eS132 hQ => ?_)
  have hI := invM_up_12 hI eS132 ⟨_, rfl, ⟨upd_mn b80.1 (by rw [clampN b131]; omega), upd_mn b80.2 (by rw [clampN b131]; omega)⟩⟩
  have b134 : (∀ j, j % 4 = 1 → Bd ((upd f78 (z128 : Int32).toNatClampNeg a1) j) (0) (7)) ∧ (∀ j, j % 4 = 2 → Bd ((upd f78 (z128 : Int32).toNatClampNeg a1) j) (0) (400)) := ⟨upd_mn b80.1 (by rw [clampN b131]; omega), upd_mn b80.2 (by rw [clampN b131]; omega)⟩
  have c133 : S132 12 = .inl (g.2 0, 800, .inl (upd f78 (z128 : Int32).toNatClampNeg a1)) := up_at eS132 rfl
  refine lv_aload_n hx hb dX12_acts_19 rfl (lv_at hl 1 rfl) ?_
  have c135 : S132 0 = .inr (12, [.int v99, .ref (ad 1), .ref (ad 2), .ref (ad 3), .ref (ad 4), .ref (ad 5), .int v100, .int v102, .int v104, .int v106, .int v107, .long w108, .int v109, .int v111, .int v112, .int v113, .ref (ad 6), .ref (ad 7), .ref (ad 8), .ref (ad 9), .ref (ad 10), .ref (ad 11), .ref (ad 12), .ref (ad 13), .ref (ad 14), .ref (ad 15), .int v114, .int v116, .ref (ad 16), .int v118, .int v120, .int v122, .int v124, .int v125, .ref (ad 17), .ref (ad 18), .int v126, .ref (ad 19)]) := (up_ne eS132 (by decide) c127)
  refine xget E hQ 0 (by decide) c135 rfl 22 (by decide) q1490 rfl dX12_acts_20 ?_
  refine lv_iload hx hb dX12_acts_23 (lv_at hl 0 rfl) ?_
  refine lv_iconst (v := 1) hx hb dX12_acts_25 (by decide) ?_
  refine lv_iadd hx hb dX12_acts_26 ?_
  refine lv_topi (fun z136 e137 => ?_)
  have t138 := ib_add e137 b131 (by decide : Bd 1 (1) (1)) (by decide) (by decide)
  have b139 : Bd z136 (1) (157) := ib_addb t138 b131 (by decide : Bd 1 (1) (1))
  have t138 : z136.toInt = z128.toInt + 1 := fold_add t138 rfl (by decide)
  refine lv_iload_n hx hb dX12_acts_27 rfl (lv_at hl 3 rfl) ?_
  refine xiast E hs hQ 12 (by decide) c133 (ib_in b139 (by decide) (by decide)) dX12_acts_28 (fun H locs S140 eS140 hQ => ?_)
  have hI := invM_up_12 hI eS140 ⟨_, rfl, ⟨upd_m b134.1 ba2, upd_mn b134.2 (by rw [clampN b139]; omega)⟩⟩
  have b142 : (∀ j, j % 4 = 1 → Bd ((upd (upd f78 (z128 : Int32).toNatClampNeg a1) (z136 : Int32).toNatClampNeg a2) j) (0) (7)) ∧ (∀ j, j % 4 = 2 → Bd ((upd (upd f78 (z128 : Int32).toNatClampNeg a1) (z136 : Int32).toNatClampNeg a2) j) (0) (400)) := ⟨upd_m b134.1 ba2, upd_mn b134.2 (by rw [clampN b139]; omega)⟩
  have c141 : S140 12 = .inl (g.2 0, 800, .inl (upd (upd f78 (z128 : Int32).toNatClampNeg a1) (z136 : Int32).toNatClampNeg a2)) := up_at eS140 rfl
  refine lv_aload_n hx hb dX12_acts_29 rfl (lv_at hl 1 rfl) ?_
  have c143 : S140 0 = .inr (12, [.int v99, .ref (ad 1), .ref (ad 2), .ref (ad 3), .ref (ad 4), .ref (ad 5), .int v100, .int v102, .int v104, .int v106, .int v107, .long w108, .int v109, .int v111, .int v112, .int v113, .ref (ad 6), .ref (ad 7), .ref (ad 8), .ref (ad 9), .ref (ad 10), .ref (ad 11), .ref (ad 12), .ref (ad 13), .ref (ad 14), .ref (ad 15), .int v114, .int v116, .ref (ad 16), .int v118, .int v120, .int v122, .int v124, .int v125, .ref (ad 17), .ref (ad 18), .int v126, .ref (ad 19)]) := (up_ne eS140 (by decide) c135)
  refine xget E hQ 0 (by decide) c143 rfl 22 (by decide) q1490 rfl dX12_acts_30 ?_
  refine lv_iload hx hb dX12_acts_33 (lv_at hl 0 rfl) ?_
  refine lv_iconst (v := 2) hx hb dX12_acts_35 (by decide) ?_
  refine lv_iadd hx hb dX12_acts_36 ?_
  refine lv_topi (fun z144 e145 => ?_)
  have t146 := ib_add e145 b131 (by decide : Bd 2 (2) (2)) (by decide) (by decide)
  have b147 : Bd z144 (2) (158) := ib_addb t146 b131 (by decide : Bd 2 (2) (2))
  have t146 : z144.toInt = z128.toInt + 2 := fold_add t146 rfl (by decide)
  refine lv_iload_n hx hb dX12_acts_37 rfl (lv_at hl 4 rfl) ?_
  refine xiast E hs hQ 12 (by decide) c141 (ib_in b147 (by decide) (by decide)) dX12_acts_38 (fun H locs S148 eS148 hQ => ?_)
  have hI := invM_up_12 hI eS148 ⟨_, rfl, ⟨upd_mn b142.1 (by rw [clampN b147]; omega), upd_m b142.2 ba3⟩⟩
  have b150 : (∀ j, j % 4 = 1 → Bd ((upd (upd (upd f78 (z128 : Int32).toNatClampNeg a1) (z136 : Int32).toNatClampNeg a2) (z144 : Int32).toNatClampNeg a3) j) (0) (7)) ∧ (∀ j, j % 4 = 2 → Bd ((upd (upd (upd f78 (z128 : Int32).toNatClampNeg a1) (z136 : Int32).toNatClampNeg a2) (z144 : Int32).toNatClampNeg a3) j) (0) (400)) := ⟨upd_mn b142.1 (by rw [clampN b147]; omega), upd_m b142.2 ba3⟩
  have c149 : S148 12 = .inl (g.2 0, 800, .inl (upd (upd (upd f78 (z128 : Int32).toNatClampNeg a1) (z136 : Int32).toNatClampNeg a2) (z144 : Int32).toNatClampNeg a3)) := up_at eS148 rfl
  refine lv_aload_n hx hb dX12_acts_39 rfl (lv_at hl 1 rfl) ?_
  have c151 : S148 0 = .inr (12, [.int v99, .ref (ad 1), .ref (ad 2), .ref (ad 3), .ref (ad 4), .ref (ad 5), .int v100, .int v102, .int v104, .int v106, .int v107, .long w108, .int v109, .int v111, .int v112, .int v113, .ref (ad 6), .ref (ad 7), .ref (ad 8), .ref (ad 9), .ref (ad 10), .ref (ad 11), .ref (ad 12), .ref (ad 13), .ref (ad 14), .ref (ad 15), .int v114, .int v116, .ref (ad 16), .int v118, .int v120, .int v122, .int v124, .int v125, .ref (ad 17), .ref (ad 18), .int v126, .ref (ad 19)]) := (up_ne eS148 (by decide) c143)
  refine xget E hQ 0 (by decide) c151 rfl 22 (by decide) q1490 rfl dX12_acts_40 ?_
  refine lv_iload hx hb dX12_acts_43 (lv_at hl 0 rfl) ?_
  refine lv_iconst (v := 3) hx hb dX12_acts_45 (by decide) ?_
  refine lv_iadd hx hb dX12_acts_46 ?_
  refine lv_topi (fun z152 e153 => ?_)
  have t154 := ib_add e153 b131 (by decide : Bd 3 (3) (3)) (by decide) (by decide)
  have b155 : Bd z152 (3) (159) := ib_addb t154 b131 (by decide : Bd 3 (3) (3))
  have t154 : z152.toInt = z128.toInt + 3 := fold_add t154 rfl (by decide)
  refine lv_iload hx hb dX12_acts_47 (lv_at hl 5 rfl) ?_
  refine xiast E hs hQ 12 (by decide) c149 (ib_in b155 (by decide) (by decide)) dX12_acts_49 (fun H locs S156 eS156 hQ => ?_)
  have hI := invM_up_12 hI eS156 ⟨_, rfl, ⟨upd_mn b150.1 (by rw [clampN b155]; omega), upd_mn b150.2 (by rw [clampN b155]; omega)⟩⟩
  have b158 : (∀ j, j % 4 = 1 → Bd ((upd (upd (upd (upd f78 (z128 : Int32).toNatClampNeg a1) (z136 : Int32).toNatClampNeg a2) (z144 : Int32).toNatClampNeg a3) (z152 : Int32).toNatClampNeg a4) j) (0) (7)) ∧ (∀ j, j % 4 = 2 → Bd ((upd (upd (upd (upd f78 (z128 : Int32).toNatClampNeg a1) (z136 : Int32).toNatClampNeg a2) (z144 : Int32).toNatClampNeg a3) (z152 : Int32).toNatClampNeg a4) j) (0) (400)) := ⟨upd_mn b150.1 (by rw [clampN b155]; omega), upd_mn b150.2 (by rw [clampN b155]; omega)⟩
  have c157 : S156 12 = .inl (g.2 0, 800, .inl (upd (upd (upd (upd f78 (z128 : Int32).toNatClampNeg a1) (z136 : Int32).toNatClampNeg a2) (z144 : Int32).toNatClampNeg a3) (z152 : Int32).toNatClampNeg a4)) := up_at eS156 rfl
  refine lv_aload_n hx hb dX12_acts_50 rfl (lv_at hl 1 rfl) ?_
  have c159 : S156 0 = .inr (12, [.int v99, .ref (ad 1), .ref (ad 2), .ref (ad 3), .ref (ad 4), .ref (ad 5), .int v100, .int v102, .int v104, .int v106, .int v107, .long w108, .int v109, .int v111, .int v112, .int v113, .ref (ad 6), .ref (ad 7), .ref (ad 8), .ref (ad 9), .ref (ad 10), .ref (ad 11), .ref (ad 12), .ref (ad 13), .ref (ad 14), .ref (ad 15), .int v114, .int v116, .ref (ad 16), .int v118, .int v120, .int v122, .int v124, .int v125, .ref (ad 17), .ref (ad 18), .int v126, .ref (ad 19)]) := (up_ne eS156 (by decide) c151)
  refine xget E hQ 0 (by decide) c159 rfl 17 (by decide) q1485 rfl dX12_acts_51 ?_
  refine lv_bipush (v := 9) hx hb dX12_acts_54 (by decide) ?_
  refine lv_dup2_11 hx hb dX12_acts_56 rfl rfl ?_
  have c160 : S156 7 = .inl (g.2 0, 50, .inl f1) := (up_ne eS156 (by decide) (up_ne eS148 (by decide) (up_ne eS140 (by decide) (up_ne eS132 (by decide) c2))))
  refine xiald E hQ 7 (by decide) c160 (vp_in_lit 9 50 (by decide)) dX12_acts_57 ?_
  refine sb_at (P := fun z => W _ _ _ _ _ _ _ _ _ _ _ _ _ _ _ (F0 _ _ _ (.int z :: _))) (show f1 (9 : Int32).toNatClampNeg = v4 from ee5) ?_
  refine lv_iconst (v := 1) hx hb dX12_acts_58 (by decide) ?_
  refine lv_iadd hx hb dX12_acts_59 ?_
  refine lv_topi (fun z161 e162 => ?_)
  have t163 := ib_add e162 b77 (by decide : Bd 1 (1) (1)) (by decide) (by decide)
  have b164 : Bd z161 (1) (40) := ib_addb t163 b77 (by decide : Bd 1 (1) (1))
  have t163 : z161.toInt = v4.toInt + 1 := fold_add t163 rfl (by decide)
  refine xiast E hs hQ 7 (by decide) c160 (vp_in_lit 9 50 (by decide)) dX12_acts_60 (fun H locs S165 eS165 hQ => ?_)
  have hI := invM_up_7 hI eS165 ⟨_, rfl, ⟨upd_mn b3.1 (by decide), upd_mn b3.2.1 (by decide), upd_mn b3.2.2.1 (by decide), upd_mn b3.2.2.2.1 (by decide), upd_mn b3.2.2.2.2.1 (by decide), upd_mn b3.2.2.2.2.2.1 (by decide), upd_mn b3.2.2.2.2.2.2.1 (by decide), upd_m b3.2.2.2.2.2.2.2 (ib_wk b164 (by decide) (by decide))⟩⟩
  have b167 : (∀ j, j % 10 = 0 → Bd ((upd f1 (9 : Int32).toNatClampNeg z161) j) (0) (12)) ∧ (∀ j, j % 10 = 1 → Bd ((upd f1 (9 : Int32).toNatClampNeg z161) j) (0) (12)) ∧ (∀ j, j % 10 = 2 → Bd ((upd f1 (9 : Int32).toNatClampNeg z161) j) (0) (6)) ∧ (∀ j, j % 10 = 3 → Bd ((upd f1 (9 : Int32).toNatClampNeg z161) j) (0) (12)) ∧ (∀ j, j % 10 = 6 → Bd ((upd f1 (9 : Int32).toNatClampNeg z161) j) (0) (8)) ∧ (∀ j, j % 10 = 7 → Bd ((upd f1 (9 : Int32).toNatClampNeg z161) j) (0) (6)) ∧ (∀ j, j % 10 = 8 → Bd ((upd f1 (9 : Int32).toNatClampNeg z161) j) (0) (3)) ∧ (∀ j, j % 10 = 9 → Bd ((upd f1 (9 : Int32).toNatClampNeg z161) j) (0) (40)) := ⟨upd_mn b3.1 (by decide), upd_mn b3.2.1 (by decide), upd_mn b3.2.2.1 (by decide), upd_mn b3.2.2.2.1 (by decide), upd_mn b3.2.2.2.2.1 (by decide), upd_mn b3.2.2.2.2.2.1 (by decide), upd_mn b3.2.2.2.2.2.2.1 (by decide), upd_m b3.2.2.2.2.2.2.2 (ib_wk b164 (by decide) (by decide))⟩
  have c166 : S165 7 = .inl (g.2 0, 50, .inl (upd f1 (9 : Int32).toNatClampNeg z161)) := up_at eS165 rfl
  have q168 : elm (S165 7) 9 = z161.toInt := (elm_of c166 9).trans (congrArg Int32.toInt ((upd_s)))
  have q169 : elm (S 7) 0 = v7.toInt := (elm_of c2 0).trans (congrArg Int32.toInt (ee8))
  have q170 : elm (S165 7) 0 = v7.toInt := (elm_of c166 0).trans (congrArg Int32.toInt (((upd_o (by decide)).trans (ee8))))
  have q171 : elm (S 7) 1 = v10.toInt := (elm_of c2 1).trans (congrArg Int32.toInt (ee11))
  have q172 : elm (S165 7) 1 = v10.toInt := (elm_of c166 1).trans (congrArg Int32.toInt (((upd_o (by decide)).trans (ee11))))
  have q173 : elm (S 7) 3 = v13.toInt := (elm_of c2 3).trans (congrArg Int32.toInt (ee14))
  have q174 : elm (S165 7) 3 = v13.toInt := (elm_of c166 3).trans (congrArg Int32.toInt (((upd_o (by decide)).trans (ee14))))
  have q175 : elm (S 7) 6 = v16.toInt := (elm_of c2 6).trans (congrArg Int32.toInt (ee17))
  have q176 : elm (S165 7) 6 = v16.toInt := (elm_of c166 6).trans (congrArg Int32.toInt (((upd_o (by decide)).trans (ee17))))
  have q177 : elm (S 7) 8 = v19.toInt := (elm_of c2 8).trans (congrArg Int32.toInt (ee20))
  have q178 : elm (S165 7) 8 = v19.toInt := (elm_of c166 8).trans (congrArg Int32.toInt (((upd_o (by decide)).trans (ee20))))
  have q179 : elm (S 7) 10 = v22.toInt := (elm_of c2 10).trans (congrArg Int32.toInt (ee23))
  have q180 : elm (S165 7) 10 = v22.toInt := (elm_of c166 10).trans (congrArg Int32.toInt (((upd_o (by decide)).trans (ee23))))
  have q181 : elm (S 7) 11 = v25.toInt := (elm_of c2 11).trans (congrArg Int32.toInt (ee26))
  have q182 : elm (S165 7) 11 = v25.toInt := (elm_of c166 11).trans (congrArg Int32.toInt (((upd_o (by decide)).trans (ee26))))
  have q183 : elm (S 7) 13 = v28.toInt := (elm_of c2 13).trans (congrArg Int32.toInt (ee29))
  have q184 : elm (S165 7) 13 = v28.toInt := (elm_of c166 13).trans (congrArg Int32.toInt (((upd_o (by decide)).trans (ee29))))
  have q185 : elm (S 7) 16 = v31.toInt := (elm_of c2 16).trans (congrArg Int32.toInt (ee32))
  have q186 : elm (S165 7) 16 = v31.toInt := (elm_of c166 16).trans (congrArg Int32.toInt (((upd_o (by decide)).trans (ee32))))
  have q187 : elm (S 7) 18 = v34.toInt := (elm_of c2 18).trans (congrArg Int32.toInt (ee35))
  have q188 : elm (S165 7) 18 = v34.toInt := (elm_of c166 18).trans (congrArg Int32.toInt (((upd_o (by decide)).trans (ee35))))
  have q189 : elm (S 7) 19 = v37.toInt := (elm_of c2 19).trans (congrArg Int32.toInt (ee38))
  have q190 : elm (S165 7) 19 = v37.toInt := (elm_of c166 19).trans (congrArg Int32.toInt (((upd_o (by decide)).trans (ee38))))
  have q191 : elm (S 7) 20 = v40.toInt := (elm_of c2 20).trans (congrArg Int32.toInt (ee41))
  have q192 : elm (S165 7) 20 = v40.toInt := (elm_of c166 20).trans (congrArg Int32.toInt (((upd_o (by decide)).trans (ee41))))
  have q193 : elm (S 7) 21 = v43.toInt := (elm_of c2 21).trans (congrArg Int32.toInt (ee44))
  have q194 : elm (S165 7) 21 = v43.toInt := (elm_of c166 21).trans (congrArg Int32.toInt (((upd_o (by decide)).trans (ee44))))
  have q195 : elm (S 7) 23 = v46.toInt := (elm_of c2 23).trans (congrArg Int32.toInt (ee47))
  have q196 : elm (S165 7) 23 = v46.toInt := (elm_of c166 23).trans (congrArg Int32.toInt (((upd_o (by decide)).trans (ee47))))
  have q197 : elm (S 7) 26 = v49.toInt := (elm_of c2 26).trans (congrArg Int32.toInt (ee50))
  have q198 : elm (S165 7) 26 = v49.toInt := (elm_of c166 26).trans (congrArg Int32.toInt (((upd_o (by decide)).trans (ee50))))
  have q199 : elm (S 7) 28 = v52.toInt := (elm_of c2 28).trans (congrArg Int32.toInt (ee53))
  have q200 : elm (S165 7) 28 = v52.toInt := (elm_of c166 28).trans (congrArg Int32.toInt (((upd_o (by decide)).trans (ee53))))
  have q201 : elm (S 7) 29 = v55.toInt := (elm_of c2 29).trans (congrArg Int32.toInt (ee56))
  have q202 : elm (S165 7) 29 = v55.toInt := (elm_of c166 29).trans (congrArg Int32.toInt (((upd_o (by decide)).trans (ee56))))
  have q203 : elm (S 7) 30 = v58.toInt := (elm_of c2 30).trans (congrArg Int32.toInt (ee59))
  have q204 : elm (S165 7) 30 = v58.toInt := (elm_of c166 30).trans (congrArg Int32.toInt (((upd_o (by decide)).trans (ee59))))
  have q205 : elm (S 7) 31 = v61.toInt := (elm_of c2 31).trans (congrArg Int32.toInt (ee62))
  have q206 : elm (S165 7) 31 = v61.toInt := (elm_of c166 31).trans (congrArg Int32.toInt (((upd_o (by decide)).trans (ee62))))
  have q207 : elm (S 7) 33 = v64.toInt := (elm_of c2 33).trans (congrArg Int32.toInt (ee65))
  have q208 : elm (S165 7) 33 = v64.toInt := (elm_of c166 33).trans (congrArg Int32.toInt (((upd_o (by decide)).trans (ee65))))
  have q209 : elm (S 7) 36 = v67.toInt := (elm_of c2 36).trans (congrArg Int32.toInt (ee68))
  have q210 : elm (S165 7) 36 = v67.toInt := (elm_of c166 36).trans (congrArg Int32.toInt (((upd_o (by decide)).trans (ee68))))
  have q211 : elm (S 7) 38 = v70.toInt := (elm_of c2 38).trans (congrArg Int32.toInt (ee71))
  have q212 : elm (S165 7) 38 = v70.toInt := (elm_of c166 38).trans (congrArg Int32.toInt (((upd_o (by decide)).trans (ee71))))
  have q213 : elm (S 7) 39 = v73.toInt := (elm_of c2 39).trans (congrArg Int32.toInt (ee74))
  have q214 : elm (S165 7) 39 = v73.toInt := (elm_of c166 39).trans (congrArg Int32.toInt (((upd_o (by decide)).trans (ee74))))
  have c215 : S165 12 = .inl (g.2 0, 800, .inl (upd (upd (upd (upd f78 (z128 : Int32).toNatClampNeg a1) (z136 : Int32).toNatClampNeg a2) (z144 : Int32).toNatClampNeg a3) (z152 : Int32).toNatClampNeg a4)) := (up_ne eS165 (by decide) c157)
  exact xrv E hr hlk hQ (⟨hI, (up_o (up_o (up_o (up_o (up_o o_refl eS132 (by decide)) eS140 (by decide)) eS148 (by decide)) eS156 (by decide)) eS165 (by decide)), ⟨by omega, by omega⟩, ⟨by omega, by omega⟩, ⟨by omega, by omega⟩, ⟨by omega, by omega⟩, ⟨by omega, by omega⟩, ⟨by omega, by omega⟩, ⟨by omega, by omega⟩, ⟨by omega, by omega⟩, ⟨by omega, by omega⟩, ⟨by omega, by omega⟩, ⟨by omega, by omega⟩, ⟨by omega, by omega⟩, ⟨by omega, by omega⟩, ⟨by omega, by omega⟩, ⟨by omega, by omega⟩, ⟨by omega, by omega⟩, ⟨by omega, by omega⟩, ⟨by omega, by omega⟩, ⟨by omega, by omega⟩, ⟨by omega, by omega⟩, ⟨by omega, by omega⟩, ⟨by omega, by omega⟩, ⟨by omega, by omega⟩, ⟨by omega, by omega⟩, (at_add (q := 0) c2 c79 c166 c215 b3.2.2.2.2.2.2.2 ee5 (by omega) b77 (by omega) (by omega) (by omega) (by omega) hw (by decide) hAT0), (at_add (q := 1) c2 c79 c166 c215 b3.2.2.2.2.2.2.2 ee5 (by omega) b77 (by omega) (by omega) (by omega) (by omega) hw (by decide) hAT1), (at_add (q := 2) c2 c79 c166 c215 b3.2.2.2.2.2.2.2 ee5 (by omega) b77 (by omega) (by omega) (by omega) (by omega) hw (by decide) hAT2), (at_add (q := 3) c2 c79 c166 c215 b3.2.2.2.2.2.2.2 ee5 (by omega) b77 (by omega) (by omega) (by omega) (by omega) hw (by decide) hAT3)⟩) dX12_acts_61
set_option maxHeartbeats 4000000 in
set_option maxRecDepth 100000 in
theorem gX12_sit_0 (l : Launch) (g : GG) (ad : Nat → Nat) (hD : Dj ad 20) (S : SS) (hI : InvM g ad S) (a1 : Int32) (a2 : Int32) (hq1 : 0 ≤ 12 * elm (S 7) 1 + (-1) * elm (S 7) 0) (hq2 : 0 ≤ 12 * elm (S 7) 3 + (-1) * elm (S 7) 0) (hq3 : 0 ≤ 8 * elm (S 7) 0 + (-1) * elm (S 7) 6) (hq4 : 0 ≤ 3 * elm (S 7) 0 + (-1) * elm (S 7) 8) (hq5 : 0 ≤ 40000 * elm (S 7) 0 + (-1) * elm (S 6) 0) (hq6 : 0 ≤ 12 * elm (S 7) 11 + (-1) * elm (S 7) 10) (hq7 : 0 ≤ 12 * elm (S 7) 13 + (-1) * elm (S 7) 10) (hq8 : 0 ≤ 8 * elm (S 7) 10 + (-1) * elm (S 7) 16) (hq9 : 0 ≤ 3 * elm (S 7) 10 + (-1) * elm (S 7) 18) (hq10 : 0 ≤ 40000 * elm (S 7) 10 + (-1) * elm (S 6) 1) (hq11 : 0 ≤ 12 * elm (S 7) 21 + (-1) * elm (S 7) 20) (hq12 : 0 ≤ 12 * elm (S 7) 23 + (-1) * elm (S 7) 20) (hq13 : 0 ≤ 8 * elm (S 7) 20 + (-1) * elm (S 7) 26) (hq14 : 0 ≤ 3 * elm (S 7) 20 + (-1) * elm (S 7) 28) (hq15 : 0 ≤ 40000 * elm (S 7) 20 + (-1) * elm (S 6) 2) (hq16 : 0 ≤ 12 * elm (S 7) 31 + (-1) * elm (S 7) 30) (hq17 : 0 ≤ 12 * elm (S 7) 33 + (-1) * elm (S 7) 30) (hq18 : 0 ≤ 8 * elm (S 7) 30 + (-1) * elm (S 7) 36) (hq19 : 0 ≤ 3 * elm (S 7) 30 + (-1) * elm (S 7) 38) (hq20 : 0 ≤ 40000 * elm (S 7) 30 + (-1) * elm (S 6) 3) (hAT0 : ATp (S 7) (S 12) 0) (hAT1 : ATp (S 7) (S 12) 1) (hAT2 : ATp (S 7) (S 12) 2) (hAT3 : ATp (S 7) (S 12) 3) : Met l yX12_sit (wG (.code yX12_sit cX12_sit 3 (some .int))) (Rm 2) (XPre g ad 20 S [.ref (ad 0), .int a1, .int a2]) (va_Qi (fun r S' => InvM g ad S' ∧ (∀ j, j ∉ ([0, 7, 12, 14, 15] : List Nat) → S' j = S j) ∧ Bd r (-5) (11) ∧ (0 ≤ 12 * elm (S' 7) 1 + (-1) * elm (S' 7) 0) ∧ (0 ≤ 12 * elm (S' 7) 3 + (-1) * elm (S' 7) 0) ∧ (0 ≤ 8 * elm (S' 7) 0 + (-1) * elm (S' 7) 6) ∧ (0 ≤ 3 * elm (S' 7) 0 + (-1) * elm (S' 7) 8) ∧ (0 ≤ 40000 * elm (S' 7) 0 + (-1) * elm (S' 6) 0) ∧ (0 ≤ 12 * elm (S' 7) 11 + (-1) * elm (S' 7) 10) ∧ (0 ≤ 12 * elm (S' 7) 13 + (-1) * elm (S' 7) 10) ∧ (0 ≤ 8 * elm (S' 7) 10 + (-1) * elm (S' 7) 16) ∧ (0 ≤ 3 * elm (S' 7) 10 + (-1) * elm (S' 7) 18) ∧ (0 ≤ 40000 * elm (S' 7) 10 + (-1) * elm (S' 6) 1) ∧ (0 ≤ 12 * elm (S' 7) 21 + (-1) * elm (S' 7) 20) ∧ (0 ≤ 12 * elm (S' 7) 23 + (-1) * elm (S' 7) 20) ∧ (0 ≤ 8 * elm (S' 7) 20 + (-1) * elm (S' 7) 26) ∧ (0 ≤ 3 * elm (S' 7) 20 + (-1) * elm (S' 7) 28) ∧ (0 ≤ 40000 * elm (S' 7) 20 + (-1) * elm (S' 6) 2) ∧ (0 ≤ 12 * elm (S' 7) 31 + (-1) * elm (S' 7) 30) ∧ (0 ≤ 12 * elm (S' 7) 33 + (-1) * elm (S' 7) 30) ∧ (0 ≤ 8 * elm (S' 7) 30 + (-1) * elm (S' 7) 36) ∧ (0 ≤ 3 * elm (S' 7) 30 + (-1) * elm (S' 7) 38) ∧ (0 ≤ 40000 * elm (S' 7) 30 + (-1) * elm (S' 6) 3) ∧ (0 ≤ elm (S 7) 0 + (-1) * elm (S' 7) 0 ∧ 0 ≤ elm (S' 7) 0 + (-1) * elm (S 7) 0) ∧ (0 ≤ elm (S 7) 6 + (-1) * elm (S' 7) 6 ∧ 0 ≤ elm (S' 7) 6 + (-1) * elm (S 7) 6) ∧ (0 ≤ elm (S 7) 10 + (-1) * elm (S' 7) 10 ∧ 0 ≤ elm (S' 7) 10 + (-1) * elm (S 7) 10) ∧ (0 ≤ elm (S 7) 16 + (-1) * elm (S' 7) 16 ∧ 0 ≤ elm (S' 7) 16 + (-1) * elm (S 7) 16) ∧ (0 ≤ elm (S 7) 20 + (-1) * elm (S' 7) 20 ∧ 0 ≤ elm (S' 7) 20 + (-1) * elm (S 7) 20) ∧ (0 ≤ elm (S 7) 26 + (-1) * elm (S' 7) 26 ∧ 0 ≤ elm (S' 7) 26 + (-1) * elm (S 7) 26) ∧ (0 ≤ elm (S 7) 30 + (-1) * elm (S' 7) 30 ∧ 0 ≤ elm (S' 7) 30 + (-1) * elm (S 7) 30) ∧ (0 ≤ elm (S 7) 36 + (-1) * elm (S' 7) 36 ∧ 0 ≤ elm (S' 7) 36 + (-1) * elm (S 7) 36) ∧ (ATp (S' 7) (S' 12) 0) ∧ (ATp (S' 7) (S' 12) 1) ∧ (ATp (S' 7) (S' 12) 2) ∧ (ATp (S' 7) (S' 12) 3)) (QB g ad 20) (FA ad 20)) 0 0 (FA ad 20) := by
  refine xmet cX12_sit "EbbWreckModel" (by decide) rfl (Nat.le_of_ble_eq_true rfl) (fun p e s m below meth c E hr hlk hml hQ ls hl => ?_)
  have hx := E.1
  have hb := E.2.1
  have hs : Sp ad 20 (FA ad 20) := Sp.fa hD
  have hl : lv_has ls 3 [(0, .ref (ad 0)), (1, .int a1), (2, .int a2)] := hl
  obtain ⟨f1, c2, b3⟩ := invM_7 hI
  obtain ⟨v4, ee5⟩ : ∃ z : Int32, f1 1 = z := ⟨_, rfl⟩
  have b6 : Bd v4 (0) (12) := (by rw [← ee5]; exact b3.2.1 1 (by decide))
  obtain ⟨v7, ee8⟩ : ∃ z : Int32, f1 0 = z := ⟨_, rfl⟩
  have b9 : Bd v7 (0) (12) := (by rw [← ee8]; exact b3.1 0 (by decide))
  obtain ⟨v10, ee11⟩ : ∃ z : Int32, f1 3 = z := ⟨_, rfl⟩
  have b12 : Bd v10 (0) (12) := (by rw [← ee11]; exact b3.2.2.2.1 3 (by decide))
  obtain ⟨v13, ee14⟩ : ∃ z : Int32, f1 6 = z := ⟨_, rfl⟩
  have b15 : Bd v13 (0) (8) := (by rw [← ee14]; exact b3.2.2.2.2.1 6 (by decide))
  obtain ⟨v16, ee17⟩ : ∃ z : Int32, f1 8 = z := ⟨_, rfl⟩
  have b18 : Bd v16 (0) (3) := (by rw [← ee17]; exact b3.2.2.2.2.2.2.1 8 (by decide))
  obtain ⟨f19, c20, b21⟩ := invM_6 hI
  obtain ⟨v22, ee23⟩ : ∃ z : Int32, f19 0 = z := ⟨_, rfl⟩
  have b24 : Bd v22 (0) (40000) := (by rw [← ee23]; exact b21 0)
  obtain ⟨v25, ee26⟩ : ∃ z : Int32, f1 11 = z := ⟨_, rfl⟩
  have b27 : Bd v25 (0) (12) := (by rw [← ee26]; exact b3.2.1 11 (by decide))
  obtain ⟨v28, ee29⟩ : ∃ z : Int32, f1 10 = z := ⟨_, rfl⟩
  have b30 : Bd v28 (0) (12) := (by rw [← ee29]; exact b3.1 10 (by decide))
  obtain ⟨v31, ee32⟩ : ∃ z : Int32, f1 13 = z := ⟨_, rfl⟩
  have b33 : Bd v31 (0) (12) := (by rw [← ee32]; exact b3.2.2.2.1 13 (by decide))
  obtain ⟨v34, ee35⟩ : ∃ z : Int32, f1 16 = z := ⟨_, rfl⟩
  have b36 : Bd v34 (0) (8) := (by rw [← ee35]; exact b3.2.2.2.2.1 16 (by decide))
  obtain ⟨v37, ee38⟩ : ∃ z : Int32, f1 18 = z := ⟨_, rfl⟩
  have b39 : Bd v37 (0) (3) := (by rw [← ee38]; exact b3.2.2.2.2.2.2.1 18 (by decide))
  obtain ⟨v40, ee41⟩ : ∃ z : Int32, f19 1 = z := ⟨_, rfl⟩
  have b42 : Bd v40 (0) (40000) := (by rw [← ee41]; exact b21 1)
  obtain ⟨v43, ee44⟩ : ∃ z : Int32, f1 21 = z := ⟨_, rfl⟩
  have b45 : Bd v43 (0) (12) := (by rw [← ee44]; exact b3.2.1 21 (by decide))
  obtain ⟨v46, ee47⟩ : ∃ z : Int32, f1 20 = z := ⟨_, rfl⟩
  have b48 : Bd v46 (0) (12) := (by rw [← ee47]; exact b3.1 20 (by decide))
  obtain ⟨v49, ee50⟩ : ∃ z : Int32, f1 23 = z := ⟨_, rfl⟩
  have b51 : Bd v49 (0) (12) := (by rw [← ee50]; exact b3.2.2.2.1 23 (by decide))
  obtain ⟨v52, ee53⟩ : ∃ z : Int32, f1 26 = z := ⟨_, rfl⟩
  have b54 : Bd v52 (0) (8) := (by rw [← ee53]; exact b3.2.2.2.2.1 26 (by decide))
  obtain ⟨v55, ee56⟩ : ∃ z : Int32, f1 28 = z := ⟨_, rfl⟩
  have b57 : Bd v55 (0) (3) := (by rw [← ee56]; exact b3.2.2.2.2.2.2.1 28 (by decide))
  obtain ⟨v58, ee59⟩ : ∃ z : Int32, f19 2 = z := ⟨_, rfl⟩
  have b60 : Bd v58 (0) (40000) := (by rw [← ee59]; exact b21 2)
  obtain ⟨v61, ee62⟩ : ∃ z : Int32, f1 31 = z := ⟨_, rfl⟩
  have b63 : Bd v61 (0) (12) := (by rw [← ee62]; exact b3.2.1 31 (by decide))
  obtain ⟨v64, ee65⟩ : ∃ z : Int32, f1 30 = z := ⟨_, rfl⟩
  have b66 : Bd v64 (0) (12) := (by rw [← ee65]; exact b3.1 30 (by decide))
  obtain ⟨v67, ee68⟩ : ∃ z : Int32, f1 33 = z := ⟨_, rfl⟩
  have b69 : Bd v67 (0) (12) := (by rw [← ee68]; exact b3.2.2.2.1 33 (by decide))
  obtain ⟨v70, ee71⟩ : ∃ z : Int32, f1 36 = z := ⟨_, rfl⟩
  have b72 : Bd v70 (0) (8) := (by rw [← ee71]; exact b3.2.2.2.2.1 36 (by decide))
  obtain ⟨v73, ee74⟩ : ∃ z : Int32, f1 38 = z := ⟨_, rfl⟩
  have b75 : Bd v73 (0) (3) := (by rw [← ee74]; exact b3.2.2.2.2.2.2.1 38 (by decide))
  obtain ⟨v76, ee77⟩ : ∃ z : Int32, f19 3 = z := ⟨_, rfl⟩
  have b78 : Bd v76 (0) (40000) := (by rw [← ee77]; exact b21 3)
  have q79 : elm (S 7) 1 = v4.toInt := (elm_of c2 1).trans (congrArg Int32.toInt (ee5))
  have q80 : elm (S 7) 0 = v7.toInt := (elm_of c2 0).trans (congrArg Int32.toInt (ee8))
  have q81 : elm (S 7) 3 = v10.toInt := (elm_of c2 3).trans (congrArg Int32.toInt (ee11))
  have q82 : elm (S 7) 6 = v13.toInt := (elm_of c2 6).trans (congrArg Int32.toInt (ee14))
  have q83 : elm (S 7) 8 = v16.toInt := (elm_of c2 8).trans (congrArg Int32.toInt (ee17))
  have q84 : elm (S 6) 0 = v22.toInt := (elm_of c20 0).trans (congrArg Int32.toInt (ee23))
  have q85 : elm (S 7) 11 = v25.toInt := (elm_of c2 11).trans (congrArg Int32.toInt (ee26))
  have q86 : elm (S 7) 10 = v28.toInt := (elm_of c2 10).trans (congrArg Int32.toInt (ee29))
  have q87 : elm (S 7) 13 = v31.toInt := (elm_of c2 13).trans (congrArg Int32.toInt (ee32))
  have q88 : elm (S 7) 16 = v34.toInt := (elm_of c2 16).trans (congrArg Int32.toInt (ee35))
  have q89 : elm (S 7) 18 = v37.toInt := (elm_of c2 18).trans (congrArg Int32.toInt (ee38))
  have q90 : elm (S 6) 1 = v40.toInt := (elm_of c20 1).trans (congrArg Int32.toInt (ee41))
  have q91 : elm (S 7) 21 = v43.toInt := (elm_of c2 21).trans (congrArg Int32.toInt (ee44))
  have q92 : elm (S 7) 20 = v46.toInt := (elm_of c2 20).trans (congrArg Int32.toInt (ee47))
  have q93 : elm (S 7) 23 = v49.toInt := (elm_of c2 23).trans (congrArg Int32.toInt (ee50))
  have q94 : elm (S 7) 26 = v52.toInt := (elm_of c2 26).trans (congrArg Int32.toInt (ee53))
  have q95 : elm (S 7) 28 = v55.toInt := (elm_of c2 28).trans (congrArg Int32.toInt (ee56))
  have q96 : elm (S 6) 2 = v58.toInt := (elm_of c20 2).trans (congrArg Int32.toInt (ee59))
  have q97 : elm (S 7) 31 = v61.toInt := (elm_of c2 31).trans (congrArg Int32.toInt (ee62))
  have q98 : elm (S 7) 30 = v64.toInt := (elm_of c2 30).trans (congrArg Int32.toInt (ee65))
  have q99 : elm (S 7) 33 = v67.toInt := (elm_of c2 33).trans (congrArg Int32.toInt (ee68))
  have q100 : elm (S 7) 36 = v70.toInt := (elm_of c2 36).trans (congrArg Int32.toInt (ee71))
  have q101 : elm (S 7) 38 = v73.toInt := (elm_of c2 38).trans (congrArg Int32.toInt (ee74))
  have q102 : elm (S 6) 3 = v76.toInt := (elm_of c20 3).trans (congrArg Int32.toInt (ee77))
  obtain ⟨f103, c104, b105⟩ := invM_12 hI
  obtain ⟨f106, c107, b108⟩ := invM_9 hI
  obtain ⟨v109, ee110⟩ : ∃ z : Int32, f1 9 = z := ⟨_, rfl⟩
  have b111 : Bd v109 (0) (40) := (by rw [← ee110]; exact b3.2.2.2.2.2.2.2 9 (by decide))
  obtain ⟨v112, ee113⟩ : ∃ z : Int32, f1 19 = z := ⟨_, rfl⟩
  have b114 : Bd v112 (0) (40) := (by rw [← ee113]; exact b3.2.2.2.2.2.2.2 19 (by decide))
  obtain ⟨v115, ee116⟩ : ∃ z : Int32, f1 29 = z := ⟨_, rfl⟩
  have b117 : Bd v115 (0) (40) := (by rw [← ee116]; exact b3.2.2.2.2.2.2.2 29 (by decide))
  obtain ⟨v118, ee119⟩ : ∃ z : Int32, f1 39 = z := ⟨_, rfl⟩
  have b120 : Bd v118 (0) (40) := (by rw [← ee119]; exact b3.2.2.2.2.2.2.2 39 (by decide))
  refine lv_aload_n hx hb dX12_sit_0 rfl (lv_at hl 0 rfl) ?_
  refine lv_iconst (v := 0) hx hb dX12_sit_1 (by decide) ?_
  obtain ⟨v121, v122, v124, v126, v128, v129, w130, v131, v133, v134, v135, v136, v138, v140, v142, v144, v146, v147, v148, c149, b123, b125, b127, b132, b137, b139, b141, b143, b145⟩ := invM_0 hI
  have c149 : S 0 = .inr (12, [.int v121, .ref (ad 1), .ref (ad 2), .ref (ad 3), .ref (ad 4), .ref (ad 5), .int v122, .int v124, .int v126, .int v128, .int v129, .long w130, .int v131, .int v133, .int v134, .int v135, .ref (ad 6), .ref (ad 7), .ref (ad 8), .ref (ad 9), .ref (ad 10), .ref (ad 11), .ref (ad 12), .ref (ad 13), .ref (ad 14), .ref (ad 15), .int v136, .int v138, .ref (ad 16), .int v140, .int v142, .int v144, .int v146, .int v147, .ref (ad 17), .ref (ad 18), .int v148, .ref (ad 19)]) := c149
  refine xputi E hs hQ 0 (by decide) c149 rfl 0 (by decide) q1468 rfl rfl (Nat.le_of_ble_eq_true rfl) dX12_sit_2 (fun H locs S150 eS150 hQ => ?_)
  have hI := invM_up_0 hI eS150 ⟨0, v122, v124, v126, v128, v129, w130, v131, v133, v134, v135, v136, v138, v140, v142, v144, v146, v147, v148, rfl, b123, b125, b127, b132, b137, b139, b141, b143, b145⟩
  have c151 : S150 0 = .inr (12, [.int 0, .ref (ad 1), .ref (ad 2), .ref (ad 3), .ref (ad 4), .ref (ad 5), .int v122, .int v124, .int v126, .int v128, .int v129, .long w130, .int v131, .int v133, .int v134, .int v135, .ref (ad 6), .ref (ad 7), .ref (ad 8), .ref (ad 9), .ref (ad 10), .ref (ad 11), .ref (ad 12), .ref (ad 13), .ref (ad 14), .ref (ad 15), .int v136, .int v138, .ref (ad 16), .int v140, .int v142, .int v144, .int v146, .int v147, .ref (ad 17), .ref (ad 18), .int v148, .ref (ad 19)]) := up_at eS150 rfl
  refine lv_aload_n hx hb dX12_sit_5 rfl (lv_at hl 0 rfl) ?_
  refine lv_iload_n hx hb dX12_sit_6 rfl (lv_at hl 1 rfl) ?_
  have c152 : S150 7 = .inl (g.2 0, 50, .inl f1) := (up_ne eS150 (by decide) c2)
  refine xcVi E hs hQ hml hl.1 0 (gX12_isSitter_0 l g ad hD S150 hI a1) mX12_isSitter q1816 (by decide) c151 rfl rfl ⟨(Nat.le_of_ble_eq_true rfl), (Nat.le_of_ble_eq_true rfl)⟩ ⟨(Nat.le_of_ble_eq_true rfl), (Nat.le_of_ble_eq_true rfl)⟩ (Nat.le_of_ble_eq_true rfl) rfl dX12_sit_7 (fun r153 S153 H locs hp153 hQ _ => ?_)
  obtain ⟨rfl, b153, g153_0⟩ := hp153
  have q154 : elm (S150 7) 8 = v16.toInt := (elm_of c152 8).trans (congrArg Int32.toInt (ee17))
  refine lv_if_eq (tgt := 22) hx hb dX12_sit_10 (by decide) (fun k155 => ?_) (fun k155 => ?_)
  · have h156 := ib_eq k155
    have b157 : Bd r153 (0) (0) := ⟨(b153).1, ((rf_eq b153 (by decide : Bd 0 (0) (0)) h156).1).2⟩
    clear g153_0
    refine lv_bipush (v := (-2)) hx hb dX12_sit_22 (by decide) ?_
    have q158 : elm (S150 7) 1 = v4.toInt := (elm_of c152 1).trans (congrArg Int32.toInt (ee5))
    have q159 : elm (S150 7) 0 = v7.toInt := (elm_of c152 0).trans (congrArg Int32.toInt (ee8))
    have q160 : elm (S150 7) 3 = v10.toInt := (elm_of c152 3).trans (congrArg Int32.toInt (ee11))
    have q161 : elm (S150 7) 6 = v13.toInt := (elm_of c152 6).trans (congrArg Int32.toInt (ee14))
    have c162 : S150 6 = .inl (g.2 0, 5, .inl f19) := (up_ne eS150 (by decide) c20)
    have q163 : elm (S150 6) 0 = v22.toInt := (elm_of c162 0).trans (congrArg Int32.toInt (ee23))
    have q164 : elm (S150 7) 11 = v25.toInt := (elm_of c152 11).trans (congrArg Int32.toInt (ee26))
    have q165 : elm (S150 7) 10 = v28.toInt := (elm_of c152 10).trans (congrArg Int32.toInt (ee29))
    have q166 : elm (S150 7) 13 = v31.toInt := (elm_of c152 13).trans (congrArg Int32.toInt (ee32))
    have q167 : elm (S150 7) 16 = v34.toInt := (elm_of c152 16).trans (congrArg Int32.toInt (ee35))
    have q168 : elm (S150 7) 18 = v37.toInt := (elm_of c152 18).trans (congrArg Int32.toInt (ee38))
    have q169 : elm (S150 6) 1 = v40.toInt := (elm_of c162 1).trans (congrArg Int32.toInt (ee41))
    have q170 : elm (S150 7) 21 = v43.toInt := (elm_of c152 21).trans (congrArg Int32.toInt (ee44))
    have q171 : elm (S150 7) 20 = v46.toInt := (elm_of c152 20).trans (congrArg Int32.toInt (ee47))
    have q172 : elm (S150 7) 23 = v49.toInt := (elm_of c152 23).trans (congrArg Int32.toInt (ee50))
    have q173 : elm (S150 7) 26 = v52.toInt := (elm_of c152 26).trans (congrArg Int32.toInt (ee53))
    have q174 : elm (S150 7) 28 = v55.toInt := (elm_of c152 28).trans (congrArg Int32.toInt (ee56))
    have q175 : elm (S150 6) 2 = v58.toInt := (elm_of c162 2).trans (congrArg Int32.toInt (ee59))
    have q176 : elm (S150 7) 31 = v61.toInt := (elm_of c152 31).trans (congrArg Int32.toInt (ee62))
    have q177 : elm (S150 7) 30 = v64.toInt := (elm_of c152 30).trans (congrArg Int32.toInt (ee65))
    have q178 : elm (S150 7) 33 = v67.toInt := (elm_of c152 33).trans (congrArg Int32.toInt (ee68))
    have q179 : elm (S150 7) 36 = v70.toInt := (elm_of c152 36).trans (congrArg Int32.toInt (ee71))
    have q180 : elm (S150 7) 38 = v73.toInt := (elm_of c152 38).trans (congrArg Int32.toInt (ee74))
    have q181 : elm (S150 6) 3 = v76.toInt := (elm_of c162 3).trans (congrArg Int32.toInt (ee77))
    exact xri E hr hlk hQ (⟨hI, (up_o o_refl eS150 (by decide)), (ib_wk (by decide : Bd (-2) (-2) (-2)) (by decide) (by decide)), (by omega), (by omega), (by omega), (by omega), (by omega), (by omega), (by omega), (by omega), (by omega), (by omega), (by omega), (by omega), (by omega), (by omega), (by omega), (by omega), (by omega), (by omega), (by omega), (by omega), ⟨by omega, by omega⟩, ⟨by omega, by omega⟩, ⟨by omega, by omega⟩, ⟨by omega, by omega⟩, ⟨by omega, by omega⟩, ⟨by omega, by omega⟩, ⟨by omega, by omega⟩, ⟨by omega, by omega⟩, (at_tr hAT0 (up_eq (j := 7) eS150 (by decide)) (up_eq (j := 12) eS150 (by decide))), (at_tr hAT1 (up_eq (j := 7) eS150 (by decide)) (up_eq (j := 12) eS150 (by decide))), (at_tr hAT2 (up_eq (j := 7) eS150 (by decide)) (up_eq (j := 12) eS150 (by decide))), (at_tr hAT3 (up_eq (j := 7) eS150 (by decide)) (up_eq (j := 12) eS150 (by decide)))⟩) dX12_sit_24
  · have h182 := ib_ne k155
    have b183 : Bd r153 (1) (1) := rf_nlo b153 (by decide : Bd 0 (0) (0)) h182
    have g184 := g153_0.resolve_left (by omega)
    clear g153_0
    have b185 : Bd a1 (0) (2) := ⟨by omega, by omega⟩
    have b186 : Bd v16 (1) (3) := ⟨by omega, (b18).2⟩
    refine lv_aload_n hx hb dX12_sit_13 rfl (lv_at hl 0 rfl) ?_
    refine lv_iload_n hx hb dX12_sit_14 rfl (lv_at hl 2 rfl) ?_
    refine lv_i2l hx hb dX12_sit_15 rfl ?_
    refine lv_topl (fun w187 e188 => ?_)
    have t189 : w187.toInt = a2.toInt := by rw [e188]; exact i2l_i _
    have b190 : BdL w187 (-2147483648) (2147483647) := (by have h1 := ((ib_full a2)).1; have h2 := ((ib_full a2)).2; exact ⟨by omega, by omega⟩)
    refine xcVi E hs hQ hml hl.1 0 (gX12_isCell_0 l g ad hD S150 hI w187) mX12_isCell q1750 (by decide) c151 rfl rfl ⟨(Nat.le_of_ble_eq_true rfl), (Nat.le_of_ble_eq_true rfl)⟩ ⟨(Nat.le_of_ble_eq_true rfl), (Nat.le_of_ble_eq_true rfl)⟩ (Nat.le_of_ble_eq_true rfl) rfl dX12_sit_16 (fun r191 S191 H locs hp191 hQ _ => ?_)
    obtain ⟨rfl, b191, g191_0⟩ := hp191
    have q192 : elm (S150 7) 0 = v7.toInt := (elm_of c152 0).trans (congrArg Int32.toInt (ee8))
    refine lv_if_ne (tgt := 25) hx hb dX12_sit_19 (by decide) (fun k193 => ?_) (fun k193 => ?_)
    · have h194 := ib_ne k193
      have b195 : Bd r191 (1) (1) := rf_nlo b191 (by decide : Bd 0 (0) (0)) h194
      have g196 := g191_0.resolve_left (by omega)
      clear g191_0
      have b197 : BdL w187 (0) (11) := ⟨by omega, by omega⟩
      have b198 : Bd v7 (1) (12) := ⟨by omega, (b9).2⟩
      have b199 : Bd a2 (0) (11) := ⟨by omega, by omega⟩
      refine lv_aload_n hx hb dX12_sit_25 rfl (lv_at hl 0 rfl) ?_
      refine xcVi E hs hQ hml hl.1 0 (gX12_isFull_0 l g ad hD S150 hI ) mX12_isFull q2104 (by decide) c151 rfl rfl ⟨(Nat.le_of_ble_eq_true rfl), (Nat.le_of_ble_eq_true rfl)⟩ ⟨(Nat.le_of_ble_eq_true rfl), (Nat.le_of_ble_eq_true rfl)⟩ (Nat.le_of_ble_eq_true rfl) rfl dX12_sit_26 (fun r200 S200 H locs hp200 hQ _ => ?_)
      obtain ⟨rfl, b200, g200_0⟩ := hp200
      have q201 : elm (S150 7) 9 = v109.toInt := (elm_of c152 9).trans (congrArg Int32.toInt (ee110))
      refine lv_if_eq (tgt := 35) hx hb dX12_sit_29 (by decide) (fun k202 => ?_) (fun k202 => ?_)
      · have h203 := ib_eq k202
        have b204 : Bd r200 (0) (0) := ⟨(b200).1, ((rf_eq b200 (by decide : Bd 0 (0) (0)) h203).1).2⟩
        have g205 := g200_0.resolve_left (by omega)
        clear g200_0
        have b206 : Bd v109 (0) (39) := ⟨(b111).1, by omega⟩
        refine lv_aload_n hx hb dX12_sit_35 rfl (lv_at hl 0 rfl) ?_
        refine xcVv E hs hQ hml hl.1 0 (gX12_lays_0 l g ad hD S150 hI (at_tr hAT0 (up_eq (j := 7) eS150 (by decide)) (up_eq (j := 12) eS150 (by decide)))) mX12_lays q1820 (by decide) c151 rfl rfl ⟨(Nat.le_of_ble_eq_true rfl), (Nat.le_of_ble_eq_true rfl)⟩ ⟨(Nat.le_of_ble_eq_true rfl), (Nat.le_of_ble_eq_true rfl)⟩ (Nat.le_of_ble_eq_true rfl) rfl dX12_sit_36 (fun S207 H locs hp207 hQ _ => ?_)
        obtain ⟨hI, o207⟩ := hp207
        refine lv_aload_n hx hb dX12_sit_39 rfl (lv_at hl 0 rfl) ?_
        refine lv_iconst (v := 0) hx hb dX12_sit_40 (by decide) ?_
        refine lv_iload_n hx hb dX12_sit_41 rfl (lv_at hl 1 rfl) ?_
        refine lv_iload_n hx hb dX12_sit_42 rfl (lv_at hl 2 rfl) ?_
        refine lv_iconst (v := 0) hx hb dX12_sit_43 (by decide) ?_
        have c208 : S207 7 = .inl (g.2 0, 50, .inl f1) := ((o207 7 (by decide)).trans c152)
        have q209 : elm (S207 7) 9 = v109.toInt := (elm_of c208 9).trans (congrArg Int32.toInt (ee110))
        have q210 : (0 : Int32).toInt = 0 := by decide
        have c212 : S207 0 = .inr (12, [.int 0, .ref (ad 1), .ref (ad 2), .ref (ad 3), .ref (ad 4), .ref (ad 5), .int v122, .int v124, .int v126, .int v128, .int v129, .long w130, .int v131, .int v133, .int v134, .int v135, .ref (ad 6), .ref (ad 7), .ref (ad 8), .ref (ad 9), .ref (ad 10), .ref (ad 11), .ref (ad 12), .ref (ad 13), .ref (ad 14), .ref (ad 15), .int v136, .int v138, .ref (ad 16), .int v140, .int v142, .int v144, .int v146, .int v147, .ref (ad 17), .ref (ad 18), .int v148, .ref (ad 19)]) := ((o207 0 (by decide)).trans c151)
        refine xcVv E hs hQ hml hl.1 0 (gX12_acts_0 l g ad hD S207 hI 0 a1 a2 0 (ib_wk (by decide : Bd 0 (0) (0)) (by decide) (by decide)) (ib_wk b185 (by decide) (by decide)) (ib_wk b199 (by decide) (by decide)) (ib_wk (by decide : Bd 0 (0) (0)) (by decide) (by decide)) (by omega) (at_tr hAT0 ((o207 7 (by decide)).trans (up_eq (j := 7) eS150 (by decide))) ((o207 12 (by decide)).trans (up_eq (j := 12) eS150 (by decide)))) (at_tr hAT1 ((o207 7 (by decide)).trans (up_eq (j := 7) eS150 (by decide))) ((o207 12 (by decide)).trans (up_eq (j := 12) eS150 (by decide)))) (at_tr hAT2 ((o207 7 (by decide)).trans (up_eq (j := 7) eS150 (by decide))) ((o207 12 (by decide)).trans (up_eq (j := 12) eS150 (by decide)))) (at_tr hAT3 ((o207 7 (by decide)).trans (up_eq (j := 7) eS150 (by decide))) ((o207 12 (by decide)).trans (up_eq (j := 12) eS150 (by decide)))) (fun _ => ⟨by omega, by omega⟩)) mX12_acts q2108 (by decide) c212 rfl rfl ⟨(Nat.le_of_ble_eq_true rfl), (Nat.le_of_ble_eq_true rfl)⟩ ⟨(Nat.le_of_ble_eq_true rfl), (Nat.le_of_ble_eq_true rfl)⟩ (Nat.le_of_ble_eq_true rfl) rfl dX12_sit_44 (fun S211 H locs hp211 hQ _ => ?_)
        obtain ⟨hI, o211, g211_0, g211_1, g211_2, g211_3, g211_4, g211_5, g211_6, g211_7, g211_8, g211_9, g211_10, g211_11, g211_12, g211_13, g211_14, g211_15, g211_16, g211_17, g211_18, g211_19, g211_20, g211_21, g211_22, g211_23, u211_0, u211_1, u211_2, u211_3⟩ := hp211
        obtain ⟨f213, c214, b215⟩ := invM_7 hI
        obtain ⟨v216, ee217⟩ : ∃ z : Int32, f213 9 = z := ⟨_, rfl⟩
        have b218 : Bd v216 (0) (40) := (by rw [← ee217]; exact b215.2.2.2.2.2.2.2 9 (by decide))
        have q219 : elm (S211 7) 9 = v216.toInt := (elm_of c214 9).trans (congrArg Int32.toInt (ee217))
        have b220 : Bd v216 (1) (40) := ⟨by omega, (b218).2⟩
        have q221 : elm (S207 7) 0 = v7.toInt := (elm_of c208 0).trans (congrArg Int32.toInt (ee8))
        obtain ⟨v222, ee223⟩ : ∃ z : Int32, f213 0 = z := ⟨_, rfl⟩
        have b224 : Bd v222 (0) (12) := (by rw [← ee223]; exact b215.1 0 (by decide))
        have q225 : elm (S211 7) 0 = v222.toInt := (elm_of c214 0).trans (congrArg Int32.toInt (ee223))
        have b226 : Bd v222 (1) (12) := ⟨by omega, (b224).2⟩
        have q227 : elm (S207 7) 1 = v4.toInt := (elm_of c208 1).trans (congrArg Int32.toInt (ee5))
        obtain ⟨v228, ee229⟩ : ∃ z : Int32, f213 1 = z := ⟨_, rfl⟩
        have b230 : Bd v228 (0) (12) := (by rw [← ee229]; exact b215.2.1 1 (by decide))
        have q231 : elm (S211 7) 1 = v228.toInt := (elm_of c214 1).trans (congrArg Int32.toInt (ee229))
        have b232 : Bd v228 (1) (12) := ⟨by omega, (b230).2⟩
        have b233 : Bd v4 (1) (12) := ⟨by omega, (b6).2⟩
        have q234 : elm (S207 7) 3 = v10.toInt := (elm_of c208 3).trans (congrArg Int32.toInt (ee11))
        obtain ⟨v235, ee236⟩ : ∃ z : Int32, f213 3 = z := ⟨_, rfl⟩
        have b237 : Bd v235 (0) (12) := (by rw [← ee236]; exact b215.2.2.2.1 3 (by decide))
        have q238 : elm (S211 7) 3 = v235.toInt := (elm_of c214 3).trans (congrArg Int32.toInt (ee236))
        have b239 : Bd v10 (1) (12) := ⟨by omega, (b12).2⟩
        have b240 : Bd v235 (1) (12) := ⟨by omega, (b237).2⟩
        have q241 : elm (S207 7) 6 = v13.toInt := (elm_of c208 6).trans (congrArg Int32.toInt (ee14))
        obtain ⟨v242, ee243⟩ : ∃ z : Int32, f213 6 = z := ⟨_, rfl⟩
        have b244 : Bd v242 (0) (8) := (by rw [← ee243]; exact b215.2.2.2.2.1 6 (by decide))
        have q245 : elm (S211 7) 6 = v242.toInt := (elm_of c214 6).trans (congrArg Int32.toInt (ee243))
        have q246 : elm (S207 7) 8 = v16.toInt := (elm_of c208 8).trans (congrArg Int32.toInt (ee17))
        obtain ⟨v247, ee248⟩ : ∃ z : Int32, f213 8 = z := ⟨_, rfl⟩
        have b249 : Bd v247 (0) (3) := (by rw [← ee248]; exact b215.2.2.2.2.2.2.1 8 (by decide))
        have q250 : elm (S211 7) 8 = v247.toInt := (elm_of c214 8).trans (congrArg Int32.toInt (ee248))
        have b251 : Bd v247 (1) (3) := ⟨by omega, (b249).2⟩
        have q252 : elm (S207 7) 10 = v28.toInt := (elm_of c208 10).trans (congrArg Int32.toInt (ee29))
        obtain ⟨v253, ee254⟩ : ∃ z : Int32, f213 10 = z := ⟨_, rfl⟩
        have b255 : Bd v253 (0) (12) := (by rw [← ee254]; exact b215.1 10 (by decide))
        have q256 : elm (S211 7) 10 = v253.toInt := (elm_of c214 10).trans (congrArg Int32.toInt (ee254))
        have q257 : elm (S207 7) 11 = v25.toInt := (elm_of c208 11).trans (congrArg Int32.toInt (ee26))
        obtain ⟨v258, ee259⟩ : ∃ z : Int32, f213 11 = z := ⟨_, rfl⟩
        have b260 : Bd v258 (0) (12) := (by rw [← ee259]; exact b215.2.1 11 (by decide))
        have q261 : elm (S211 7) 11 = v258.toInt := (elm_of c214 11).trans (congrArg Int32.toInt (ee259))
        have q262 : elm (S207 7) 13 = v31.toInt := (elm_of c208 13).trans (congrArg Int32.toInt (ee32))
        obtain ⟨v263, ee264⟩ : ∃ z : Int32, f213 13 = z := ⟨_, rfl⟩
        have b265 : Bd v263 (0) (12) := (by rw [← ee264]; exact b215.2.2.2.1 13 (by decide))
        have q266 : elm (S211 7) 13 = v263.toInt := (elm_of c214 13).trans (congrArg Int32.toInt (ee264))
        have q267 : elm (S207 7) 16 = v34.toInt := (elm_of c208 16).trans (congrArg Int32.toInt (ee35))
        obtain ⟨v268, ee269⟩ : ∃ z : Int32, f213 16 = z := ⟨_, rfl⟩
        have b270 : Bd v268 (0) (8) := (by rw [← ee269]; exact b215.2.2.2.2.1 16 (by decide))
        have q271 : elm (S211 7) 16 = v268.toInt := (elm_of c214 16).trans (congrArg Int32.toInt (ee269))
        have q272 : elm (S207 7) 18 = v37.toInt := (elm_of c208 18).trans (congrArg Int32.toInt (ee38))
        obtain ⟨v273, ee274⟩ : ∃ z : Int32, f213 18 = z := ⟨_, rfl⟩
        have b275 : Bd v273 (0) (3) := (by rw [← ee274]; exact b215.2.2.2.2.2.2.1 18 (by decide))
        have q276 : elm (S211 7) 18 = v273.toInt := (elm_of c214 18).trans (congrArg Int32.toInt (ee274))
        have q277 : elm (S207 7) 19 = v112.toInt := (elm_of c208 19).trans (congrArg Int32.toInt (ee113))
        obtain ⟨v278, ee279⟩ : ∃ z : Int32, f213 19 = z := ⟨_, rfl⟩
        have b280 : Bd v278 (0) (40) := (by rw [← ee279]; exact b215.2.2.2.2.2.2.2 19 (by decide))
        have q281 : elm (S211 7) 19 = v278.toInt := (elm_of c214 19).trans (congrArg Int32.toInt (ee279))
        have q282 : elm (S207 7) 20 = v46.toInt := (elm_of c208 20).trans (congrArg Int32.toInt (ee47))
        obtain ⟨v283, ee284⟩ : ∃ z : Int32, f213 20 = z := ⟨_, rfl⟩
        have b285 : Bd v283 (0) (12) := (by rw [← ee284]; exact b215.1 20 (by decide))
        have q286 : elm (S211 7) 20 = v283.toInt := (elm_of c214 20).trans (congrArg Int32.toInt (ee284))
        have q287 : elm (S207 7) 21 = v43.toInt := (elm_of c208 21).trans (congrArg Int32.toInt (ee44))
        obtain ⟨v288, ee289⟩ : ∃ z : Int32, f213 21 = z := ⟨_, rfl⟩
        have b290 : Bd v288 (0) (12) := (by rw [← ee289]; exact b215.2.1 21 (by decide))
        have q291 : elm (S211 7) 21 = v288.toInt := (elm_of c214 21).trans (congrArg Int32.toInt (ee289))
        have q292 : elm (S207 7) 23 = v49.toInt := (elm_of c208 23).trans (congrArg Int32.toInt (ee50))
        obtain ⟨v293, ee294⟩ : ∃ z : Int32, f213 23 = z := ⟨_, rfl⟩
        have b295 : Bd v293 (0) (12) := (by rw [← ee294]; exact b215.2.2.2.1 23 (by decide))
        have q296 : elm (S211 7) 23 = v293.toInt := (elm_of c214 23).trans (congrArg Int32.toInt (ee294))
        have q297 : elm (S207 7) 26 = v52.toInt := (elm_of c208 26).trans (congrArg Int32.toInt (ee53))
        obtain ⟨v298, ee299⟩ : ∃ z : Int32, f213 26 = z := ⟨_, rfl⟩
        have b300 : Bd v298 (0) (8) := (by rw [← ee299]; exact b215.2.2.2.2.1 26 (by decide))
        have q301 : elm (S211 7) 26 = v298.toInt := (elm_of c214 26).trans (congrArg Int32.toInt (ee299))
        have q302 : elm (S207 7) 28 = v55.toInt := (elm_of c208 28).trans (congrArg Int32.toInt (ee56))
        obtain ⟨v303, ee304⟩ : ∃ z : Int32, f213 28 = z := ⟨_, rfl⟩
        have b305 : Bd v303 (0) (3) := (by rw [← ee304]; exact b215.2.2.2.2.2.2.1 28 (by decide))
        have q306 : elm (S211 7) 28 = v303.toInt := (elm_of c214 28).trans (congrArg Int32.toInt (ee304))
        have q307 : elm (S207 7) 29 = v115.toInt := (elm_of c208 29).trans (congrArg Int32.toInt (ee116))
        obtain ⟨v308, ee309⟩ : ∃ z : Int32, f213 29 = z := ⟨_, rfl⟩
        have b310 : Bd v308 (0) (40) := (by rw [← ee309]; exact b215.2.2.2.2.2.2.2 29 (by decide))
        have q311 : elm (S211 7) 29 = v308.toInt := (elm_of c214 29).trans (congrArg Int32.toInt (ee309))
        have q312 : elm (S207 7) 30 = v64.toInt := (elm_of c208 30).trans (congrArg Int32.toInt (ee65))
        obtain ⟨v313, ee314⟩ : ∃ z : Int32, f213 30 = z := ⟨_, rfl⟩
        have b315 : Bd v313 (0) (12) := (by rw [← ee314]; exact b215.1 30 (by decide))
        have q316 : elm (S211 7) 30 = v313.toInt := (elm_of c214 30).trans (congrArg Int32.toInt (ee314))
        have q317 : elm (S207 7) 31 = v61.toInt := (elm_of c208 31).trans (congrArg Int32.toInt (ee62))
        obtain ⟨v318, ee319⟩ : ∃ z : Int32, f213 31 = z := ⟨_, rfl⟩
        have b320 : Bd v318 (0) (12) := (by rw [← ee319]; exact b215.2.1 31 (by decide))
        have q321 : elm (S211 7) 31 = v318.toInt := (elm_of c214 31).trans (congrArg Int32.toInt (ee319))
        have q322 : elm (S207 7) 33 = v67.toInt := (elm_of c208 33).trans (congrArg Int32.toInt (ee68))
        obtain ⟨v323, ee324⟩ : ∃ z : Int32, f213 33 = z := ⟨_, rfl⟩
        have b325 : Bd v323 (0) (12) := (by rw [← ee324]; exact b215.2.2.2.1 33 (by decide))
        have q326 : elm (S211 7) 33 = v323.toInt := (elm_of c214 33).trans (congrArg Int32.toInt (ee324))
        have q327 : elm (S207 7) 36 = v70.toInt := (elm_of c208 36).trans (congrArg Int32.toInt (ee71))
        obtain ⟨v328, ee329⟩ : ∃ z : Int32, f213 36 = z := ⟨_, rfl⟩
        have b330 : Bd v328 (0) (8) := (by rw [← ee329]; exact b215.2.2.2.2.1 36 (by decide))
        have q331 : elm (S211 7) 36 = v328.toInt := (elm_of c214 36).trans (congrArg Int32.toInt (ee329))
        have q332 : elm (S207 7) 38 = v73.toInt := (elm_of c208 38).trans (congrArg Int32.toInt (ee74))
        obtain ⟨v333, ee334⟩ : ∃ z : Int32, f213 38 = z := ⟨_, rfl⟩
        have b335 : Bd v333 (0) (3) := (by rw [← ee334]; exact b215.2.2.2.2.2.2.1 38 (by decide))
        have q336 : elm (S211 7) 38 = v333.toInt := (elm_of c214 38).trans (congrArg Int32.toInt (ee334))
        have q337 : elm (S207 7) 39 = v118.toInt := (elm_of c208 39).trans (congrArg Int32.toInt (ee119))
        obtain ⟨v338, ee339⟩ : ∃ z : Int32, f213 39 = z := ⟨_, rfl⟩
        have b340 : Bd v338 (0) (40) := (by rw [← ee339]; exact b215.2.2.2.2.2.2.2 39 (by decide))
        have q341 : elm (S211 7) 39 = v338.toInt := (elm_of c214 39).trans (congrArg Int32.toInt (ee339))
        refine lv_aload_n hx hb dX12_sit_47 rfl (lv_at hl 0 rfl) ?_
        have c342 : S211 0 = .inr (12, [.int 0, .ref (ad 1), .ref (ad 2), .ref (ad 3), .ref (ad 4), .ref (ad 5), .int v122, .int v124, .int v126, .int v128, .int v129, .long w130, .int v131, .int v133, .int v134, .int v135, .ref (ad 6), .ref (ad 7), .ref (ad 8), .ref (ad 9), .ref (ad 10), .ref (ad 11), .ref (ad 12), .ref (ad 13), .ref (ad 14), .ref (ad 15), .int v136, .int v138, .ref (ad 16), .int v140, .int v142, .int v144, .int v146, .int v147, .ref (ad 17), .ref (ad 18), .int v148, .ref (ad 19)]) := ((o211 0 (by decide)).trans c212)
        refine xget E hQ 0 (by decide) c342 rfl 24 (by decide) q1492 rfl dX12_sit_48 ?_
        refine lv_iload_n hx hb dX12_sit_51 rfl (lv_at hl 1 rfl) ?_
        obtain ⟨f343, c344, b345⟩ := invM_14 hI
        refine xiald E hQ 14 (by decide) c344 (ib_in b185 (by decide) (by decide)) dX12_sit_52 ?_
        refine lv_topi (fun z346 e347 => ?_)
        have b348 : Bd z346 (0) (11) := (by rw [e347]; exact b345 _)
        have c349 : S211 6 = .inl (g.2 0, 5, .inl f19) := ((o211 6 (by decide)).trans ((o207 6 (by decide)).trans (up_ne eS150 (by decide) c20)))
        have q350 : elm (S211 6) 0 = v22.toInt := (elm_of c349 0).trans (congrArg Int32.toInt (ee23))
        have q351 : elm (S211 6) 1 = v40.toInt := (elm_of c349 1).trans (congrArg Int32.toInt (ee41))
        have q352 : elm (S211 6) 2 = v58.toInt := (elm_of c349 2).trans (congrArg Int32.toInt (ee59))
        have q353 : elm (S211 6) 3 = v76.toInt := (elm_of c349 3).trans (congrArg Int32.toInt (ee77))
        exact xri E hr hlk hQ (⟨hI, (o_trans (o_trans (up_o o_refl eS150 (by decide)) o207 (by decide)) o211 (by decide)), (ib_wk b348 (by decide) (by decide)), (by omega), (by omega), (by omega), (by omega), (by omega), (by omega), (by omega), (by omega), (by omega), (by omega), (by omega), (by omega), (by omega), (by omega), (by omega), (by omega), (by omega), (by omega), (by omega), (by omega), ⟨by omega, by omega⟩, ⟨by omega, by omega⟩, ⟨by omega, by omega⟩, ⟨by omega, by omega⟩, ⟨by omega, by omega⟩, ⟨by omega, by omega⟩, ⟨by omega, by omega⟩, ⟨by omega, by omega⟩, u211_0, u211_1, u211_2, u211_3⟩) dX12_sit_53
      · have h354 := ib_ne k202
        have b355 : Bd r200 (1) (1) := rf_nlo b200 (by decide : Bd 0 (0) (0)) h354
        clear g200_0
        refine lv_bipush (v := (-5)) hx hb dX12_sit_32 (by decide) ?_
        have q356 : elm (S150 7) 1 = v4.toInt := (elm_of c152 1).trans (congrArg Int32.toInt (ee5))
        have q357 : elm (S150 7) 3 = v10.toInt := (elm_of c152 3).trans (congrArg Int32.toInt (ee11))
        have q358 : elm (S150 7) 6 = v13.toInt := (elm_of c152 6).trans (congrArg Int32.toInt (ee14))
        have c359 : S150 6 = .inl (g.2 0, 5, .inl f19) := (up_ne eS150 (by decide) c20)
        have q360 : elm (S150 6) 0 = v22.toInt := (elm_of c359 0).trans (congrArg Int32.toInt (ee23))
        have q361 : elm (S150 7) 11 = v25.toInt := (elm_of c152 11).trans (congrArg Int32.toInt (ee26))
        have q362 : elm (S150 7) 10 = v28.toInt := (elm_of c152 10).trans (congrArg Int32.toInt (ee29))
        have q363 : elm (S150 7) 13 = v31.toInt := (elm_of c152 13).trans (congrArg Int32.toInt (ee32))
        have q364 : elm (S150 7) 16 = v34.toInt := (elm_of c152 16).trans (congrArg Int32.toInt (ee35))
        have q365 : elm (S150 7) 18 = v37.toInt := (elm_of c152 18).trans (congrArg Int32.toInt (ee38))
        have q366 : elm (S150 6) 1 = v40.toInt := (elm_of c359 1).trans (congrArg Int32.toInt (ee41))
        have q367 : elm (S150 7) 21 = v43.toInt := (elm_of c152 21).trans (congrArg Int32.toInt (ee44))
        have q368 : elm (S150 7) 20 = v46.toInt := (elm_of c152 20).trans (congrArg Int32.toInt (ee47))
        have q369 : elm (S150 7) 23 = v49.toInt := (elm_of c152 23).trans (congrArg Int32.toInt (ee50))
        have q370 : elm (S150 7) 26 = v52.toInt := (elm_of c152 26).trans (congrArg Int32.toInt (ee53))
        have q371 : elm (S150 7) 28 = v55.toInt := (elm_of c152 28).trans (congrArg Int32.toInt (ee56))
        have q372 : elm (S150 6) 2 = v58.toInt := (elm_of c359 2).trans (congrArg Int32.toInt (ee59))
        have q373 : elm (S150 7) 31 = v61.toInt := (elm_of c152 31).trans (congrArg Int32.toInt (ee62))
        have q374 : elm (S150 7) 30 = v64.toInt := (elm_of c152 30).trans (congrArg Int32.toInt (ee65))
        have q375 : elm (S150 7) 33 = v67.toInt := (elm_of c152 33).trans (congrArg Int32.toInt (ee68))
        have q376 : elm (S150 7) 36 = v70.toInt := (elm_of c152 36).trans (congrArg Int32.toInt (ee71))
        have q377 : elm (S150 7) 38 = v73.toInt := (elm_of c152 38).trans (congrArg Int32.toInt (ee74))
        have q378 : elm (S150 6) 3 = v76.toInt := (elm_of c359 3).trans (congrArg Int32.toInt (ee77))
        exact xri E hr hlk hQ (⟨hI, (up_o o_refl eS150 (by decide)), (ib_wk (by decide : Bd (-5) (-5) (-5)) (by decide) (by decide)), (by omega), (by omega), (by omega), (by omega), (by omega), (by omega), (by omega), (by omega), (by omega), (by omega), (by omega), (by omega), (by omega), (by omega), (by omega), (by omega), (by omega), (by omega), (by omega), (by omega), ⟨by omega, by omega⟩, ⟨by omega, by omega⟩, ⟨by omega, by omega⟩, ⟨by omega, by omega⟩, ⟨by omega, by omega⟩, ⟨by omega, by omega⟩, ⟨by omega, by omega⟩, ⟨by omega, by omega⟩, (at_tr hAT0 (up_eq (j := 7) eS150 (by decide)) (up_eq (j := 12) eS150 (by decide))), (at_tr hAT1 (up_eq (j := 7) eS150 (by decide)) (up_eq (j := 12) eS150 (by decide))), (at_tr hAT2 (up_eq (j := 7) eS150 (by decide)) (up_eq (j := 12) eS150 (by decide))), (at_tr hAT3 (up_eq (j := 7) eS150 (by decide)) (up_eq (j := 12) eS150 (by decide)))⟩) dX12_sit_34
    · have h379 := ib_eq k193
      have b380 : Bd r191 (0) (0) := ⟨(b191).1, ((rf_eq b191 (by decide : Bd 0 (0) (0)) h379).1).2⟩
      clear g191_0
      refine lv_bipush (v := (-2)) hx hb dX12_sit_22 (by decide) ?_
      have q381 : elm (S150 7) 1 = v4.toInt := (elm_of c152 1).trans (congrArg Int32.toInt (ee5))
      have q382 : elm (S150 7) 3 = v10.toInt := (elm_of c152 3).trans (congrArg Int32.toInt (ee11))
      have q383 : elm (S150 7) 6 = v13.toInt := (elm_of c152 6).trans (congrArg Int32.toInt (ee14))
      have c384 : S150 6 = .inl (g.2 0, 5, .inl f19) := (up_ne eS150 (by decide) c20)
      have q385 : elm (S150 6) 0 = v22.toInt := (elm_of c384 0).trans (congrArg Int32.toInt (ee23))
      have q386 : elm (S150 7) 11 = v25.toInt := (elm_of c152 11).trans (congrArg Int32.toInt (ee26))
      have q387 : elm (S150 7) 10 = v28.toInt := (elm_of c152 10).trans (congrArg Int32.toInt (ee29))
      have q388 : elm (S150 7) 13 = v31.toInt := (elm_of c152 13).trans (congrArg Int32.toInt (ee32))
      have q389 : elm (S150 7) 16 = v34.toInt := (elm_of c152 16).trans (congrArg Int32.toInt (ee35))
      have q390 : elm (S150 7) 18 = v37.toInt := (elm_of c152 18).trans (congrArg Int32.toInt (ee38))
      have q391 : elm (S150 6) 1 = v40.toInt := (elm_of c384 1).trans (congrArg Int32.toInt (ee41))
      have q392 : elm (S150 7) 21 = v43.toInt := (elm_of c152 21).trans (congrArg Int32.toInt (ee44))
      have q393 : elm (S150 7) 20 = v46.toInt := (elm_of c152 20).trans (congrArg Int32.toInt (ee47))
      have q394 : elm (S150 7) 23 = v49.toInt := (elm_of c152 23).trans (congrArg Int32.toInt (ee50))
      have q395 : elm (S150 7) 26 = v52.toInt := (elm_of c152 26).trans (congrArg Int32.toInt (ee53))
      have q396 : elm (S150 7) 28 = v55.toInt := (elm_of c152 28).trans (congrArg Int32.toInt (ee56))
      have q397 : elm (S150 6) 2 = v58.toInt := (elm_of c384 2).trans (congrArg Int32.toInt (ee59))
      have q398 : elm (S150 7) 31 = v61.toInt := (elm_of c152 31).trans (congrArg Int32.toInt (ee62))
      have q399 : elm (S150 7) 30 = v64.toInt := (elm_of c152 30).trans (congrArg Int32.toInt (ee65))
      have q400 : elm (S150 7) 33 = v67.toInt := (elm_of c152 33).trans (congrArg Int32.toInt (ee68))
      have q401 : elm (S150 7) 36 = v70.toInt := (elm_of c152 36).trans (congrArg Int32.toInt (ee71))
      have q402 : elm (S150 7) 38 = v73.toInt := (elm_of c152 38).trans (congrArg Int32.toInt (ee74))
      have q403 : elm (S150 6) 3 = v76.toInt := (elm_of c384 3).trans (congrArg Int32.toInt (ee77))
      exact xri E hr hlk hQ (⟨hI, (up_o o_refl eS150 (by decide)), (ib_wk (by decide : Bd (-2) (-2) (-2)) (by decide) (by decide)), (by omega), (by omega), (by omega), (by omega), (by omega), (by omega), (by omega), (by omega), (by omega), (by omega), (by omega), (by omega), (by omega), (by omega), (by omega), (by omega), (by omega), (by omega), (by omega), (by omega), ⟨by omega, by omega⟩, ⟨by omega, by omega⟩, ⟨by omega, by omega⟩, ⟨by omega, by omega⟩, ⟨by omega, by omega⟩, ⟨by omega, by omega⟩, ⟨by omega, by omega⟩, ⟨by omega, by omega⟩, (at_tr hAT0 (up_eq (j := 7) eS150 (by decide)) (up_eq (j := 12) eS150 (by decide))), (at_tr hAT1 (up_eq (j := 7) eS150 (by decide)) (up_eq (j := 12) eS150 (by decide))), (at_tr hAT2 (up_eq (j := 7) eS150 (by decide)) (up_eq (j := 12) eS150 (by decide))), (at_tr hAT3 (up_eq (j := 7) eS150 (by decide)) (up_eq (j := 12) eS150 (by decide)))⟩) dX12_sit_24
set_option maxHeartbeats 4000000 in
set_option maxRecDepth 100000 in
theorem gX12_shove_0 (l : Launch) (g : GG) (ad : Nat → Nat) (hD : Dj ad 20) (S : SS) (hI : InvM g ad S) (a1 : Int32) (a2 : Int32) (a3 : Int32) (hq1 : 0 ≤ 12 * elm (S 7) 1 + (-1) * elm (S 7) 0) (hq2 : 0 ≤ 12 * elm (S 7) 3 + (-1) * elm (S 7) 0) (hq3 : 0 ≤ 8 * elm (S 7) 0 + (-1) * elm (S 7) 6) (hq4 : 0 ≤ 3 * elm (S 7) 0 + (-1) * elm (S 7) 8) (hq5 : 0 ≤ 40000 * elm (S 7) 0 + (-1) * elm (S 6) 0) (hq6 : 0 ≤ 12 * elm (S 7) 11 + (-1) * elm (S 7) 10) (hq7 : 0 ≤ 12 * elm (S 7) 13 + (-1) * elm (S 7) 10) (hq8 : 0 ≤ 8 * elm (S 7) 10 + (-1) * elm (S 7) 16) (hq9 : 0 ≤ 3 * elm (S 7) 10 + (-1) * elm (S 7) 18) (hq10 : 0 ≤ 40000 * elm (S 7) 10 + (-1) * elm (S 6) 1) (hq11 : 0 ≤ 12 * elm (S 7) 21 + (-1) * elm (S 7) 20) (hq12 : 0 ≤ 12 * elm (S 7) 23 + (-1) * elm (S 7) 20) (hq13 : 0 ≤ 8 * elm (S 7) 20 + (-1) * elm (S 7) 26) (hq14 : 0 ≤ 3 * elm (S 7) 20 + (-1) * elm (S 7) 28) (hq15 : 0 ≤ 40000 * elm (S 7) 20 + (-1) * elm (S 6) 2) (hq16 : 0 ≤ 12 * elm (S 7) 31 + (-1) * elm (S 7) 30) (hq17 : 0 ≤ 12 * elm (S 7) 33 + (-1) * elm (S 7) 30) (hq18 : 0 ≤ 8 * elm (S 7) 30 + (-1) * elm (S 7) 36) (hq19 : 0 ≤ 3 * elm (S 7) 30 + (-1) * elm (S 7) 38) (hq20 : 0 ≤ 40000 * elm (S 7) 30 + (-1) * elm (S 6) 3) (hAT0 : ATp (S 7) (S 12) 0) (hAT1 : ATp (S 7) (S 12) 1) (hAT2 : ATp (S 7) (S 12) 2) (hAT3 : ATp (S 7) (S 12) 3) : Met l yX12_shove (wG (.code yX12_shove cX12_shove 6 (some .int))) (Rm 2) (XPre g ad 20 S [.ref (ad 0), .int a1, .int a2, .int a3]) (va_Qi (fun _ S' => InvM g ad S' ∧ (∀ j, j ∉ ([0, 7, 12, 14, 15] : List Nat) → S' j = S j) ∧ (0 ≤ 12 * elm (S' 7) 1 + (-1) * elm (S' 7) 0) ∧ (0 ≤ 12 * elm (S' 7) 3 + (-1) * elm (S' 7) 0) ∧ (0 ≤ 8 * elm (S' 7) 0 + (-1) * elm (S' 7) 6) ∧ (0 ≤ 3 * elm (S' 7) 0 + (-1) * elm (S' 7) 8) ∧ (0 ≤ 40000 * elm (S' 7) 0 + (-1) * elm (S' 6) 0) ∧ (0 ≤ 12 * elm (S' 7) 11 + (-1) * elm (S' 7) 10) ∧ (0 ≤ 12 * elm (S' 7) 13 + (-1) * elm (S' 7) 10) ∧ (0 ≤ 8 * elm (S' 7) 10 + (-1) * elm (S' 7) 16) ∧ (0 ≤ 3 * elm (S' 7) 10 + (-1) * elm (S' 7) 18) ∧ (0 ≤ 40000 * elm (S' 7) 10 + (-1) * elm (S' 6) 1) ∧ (0 ≤ 12 * elm (S' 7) 21 + (-1) * elm (S' 7) 20) ∧ (0 ≤ 12 * elm (S' 7) 23 + (-1) * elm (S' 7) 20) ∧ (0 ≤ 8 * elm (S' 7) 20 + (-1) * elm (S' 7) 26) ∧ (0 ≤ 3 * elm (S' 7) 20 + (-1) * elm (S' 7) 28) ∧ (0 ≤ 40000 * elm (S' 7) 20 + (-1) * elm (S' 6) 2) ∧ (0 ≤ 12 * elm (S' 7) 31 + (-1) * elm (S' 7) 30) ∧ (0 ≤ 12 * elm (S' 7) 33 + (-1) * elm (S' 7) 30) ∧ (0 ≤ 8 * elm (S' 7) 30 + (-1) * elm (S' 7) 36) ∧ (0 ≤ 3 * elm (S' 7) 30 + (-1) * elm (S' 7) 38) ∧ (0 ≤ 40000 * elm (S' 7) 30 + (-1) * elm (S' 6) 3) ∧ (0 ≤ elm (S 7) 0 + (-1) * elm (S' 7) 0 ∧ 0 ≤ elm (S' 7) 0 + (-1) * elm (S 7) 0) ∧ (0 ≤ elm (S 7) 6 + (-1) * elm (S' 7) 6 ∧ 0 ≤ elm (S' 7) 6 + (-1) * elm (S 7) 6) ∧ (0 ≤ elm (S 7) 10 + (-1) * elm (S' 7) 10 ∧ 0 ≤ elm (S' 7) 10 + (-1) * elm (S 7) 10) ∧ (0 ≤ elm (S 7) 16 + (-1) * elm (S' 7) 16 ∧ 0 ≤ elm (S' 7) 16 + (-1) * elm (S 7) 16) ∧ (0 ≤ elm (S 7) 20 + (-1) * elm (S' 7) 20 ∧ 0 ≤ elm (S' 7) 20 + (-1) * elm (S 7) 20) ∧ (0 ≤ elm (S 7) 26 + (-1) * elm (S' 7) 26 ∧ 0 ≤ elm (S' 7) 26 + (-1) * elm (S 7) 26) ∧ (0 ≤ elm (S 7) 30 + (-1) * elm (S' 7) 30 ∧ 0 ≤ elm (S' 7) 30 + (-1) * elm (S 7) 30) ∧ (0 ≤ elm (S 7) 36 + (-1) * elm (S' 7) 36 ∧ 0 ≤ elm (S' 7) 36 + (-1) * elm (S 7) 36) ∧ (ATp (S' 7) (S' 12) 0) ∧ (ATp (S' 7) (S' 12) 1) ∧ (ATp (S' 7) (S' 12) 2) ∧ (ATp (S' 7) (S' 12) 3)) (QB g ad 20) (FA ad 20)) 0 0 (FA ad 20) := by
  refine xmet cX12_shove "EbbWreckModel" (by decide) rfl (Nat.le_of_ble_eq_true rfl) (fun p e s m below meth c E hr hlk hml hQ ls hl => ?_)
  have hx := E.1
  have hb := E.2.1
  have hs : Sp ad 20 (FA ad 20) := Sp.fa hD
  have hl : lv_has ls 6 [(0, .ref (ad 0)), (1, .int a1), (2, .int a2), (3, .int a3)] := hl
  obtain ⟨f1, c2, b3⟩ := invM_7 hI
  obtain ⟨v4, ee5⟩ : ∃ z : Int32, f1 1 = z := ⟨_, rfl⟩
  have b6 : Bd v4 (0) (12) := (by rw [← ee5]; exact b3.2.1 1 (by decide))
  obtain ⟨v7, ee8⟩ : ∃ z : Int32, f1 0 = z := ⟨_, rfl⟩
  have b9 : Bd v7 (0) (12) := (by rw [← ee8]; exact b3.1 0 (by decide))
  obtain ⟨v10, ee11⟩ : ∃ z : Int32, f1 3 = z := ⟨_, rfl⟩
  have b12 : Bd v10 (0) (12) := (by rw [← ee11]; exact b3.2.2.2.1 3 (by decide))
  obtain ⟨v13, ee14⟩ : ∃ z : Int32, f1 6 = z := ⟨_, rfl⟩
  have b15 : Bd v13 (0) (8) := (by rw [← ee14]; exact b3.2.2.2.2.1 6 (by decide))
  obtain ⟨v16, ee17⟩ : ∃ z : Int32, f1 8 = z := ⟨_, rfl⟩
  have b18 : Bd v16 (0) (3) := (by rw [← ee17]; exact b3.2.2.2.2.2.2.1 8 (by decide))
  obtain ⟨f19, c20, b21⟩ := invM_6 hI
  obtain ⟨v22, ee23⟩ : ∃ z : Int32, f19 0 = z := ⟨_, rfl⟩
  have b24 : Bd v22 (0) (40000) := (by rw [← ee23]; exact b21 0)
  obtain ⟨v25, ee26⟩ : ∃ z : Int32, f1 11 = z := ⟨_, rfl⟩
  have b27 : Bd v25 (0) (12) := (by rw [← ee26]; exact b3.2.1 11 (by decide))
  obtain ⟨v28, ee29⟩ : ∃ z : Int32, f1 10 = z := ⟨_, rfl⟩
  have b30 : Bd v28 (0) (12) := (by rw [← ee29]; exact b3.1 10 (by decide))
  obtain ⟨v31, ee32⟩ : ∃ z : Int32, f1 13 = z := ⟨_, rfl⟩
  have b33 : Bd v31 (0) (12) := (by rw [← ee32]; exact b3.2.2.2.1 13 (by decide))
  obtain ⟨v34, ee35⟩ : ∃ z : Int32, f1 16 = z := ⟨_, rfl⟩
  have b36 : Bd v34 (0) (8) := (by rw [← ee35]; exact b3.2.2.2.2.1 16 (by decide))
  obtain ⟨v37, ee38⟩ : ∃ z : Int32, f1 18 = z := ⟨_, rfl⟩
  have b39 : Bd v37 (0) (3) := (by rw [← ee38]; exact b3.2.2.2.2.2.2.1 18 (by decide))
  obtain ⟨v40, ee41⟩ : ∃ z : Int32, f19 1 = z := ⟨_, rfl⟩
  have b42 : Bd v40 (0) (40000) := (by rw [← ee41]; exact b21 1)
  obtain ⟨v43, ee44⟩ : ∃ z : Int32, f1 21 = z := ⟨_, rfl⟩
  have b45 : Bd v43 (0) (12) := (by rw [← ee44]; exact b3.2.1 21 (by decide))
  obtain ⟨v46, ee47⟩ : ∃ z : Int32, f1 20 = z := ⟨_, rfl⟩
  have b48 : Bd v46 (0) (12) := (by rw [← ee47]; exact b3.1 20 (by decide))
  obtain ⟨v49, ee50⟩ : ∃ z : Int32, f1 23 = z := ⟨_, rfl⟩
  have b51 : Bd v49 (0) (12) := (by rw [← ee50]; exact b3.2.2.2.1 23 (by decide))
  obtain ⟨v52, ee53⟩ : ∃ z : Int32, f1 26 = z := ⟨_, rfl⟩
  have b54 : Bd v52 (0) (8) := (by rw [← ee53]; exact b3.2.2.2.2.1 26 (by decide))
  obtain ⟨v55, ee56⟩ : ∃ z : Int32, f1 28 = z := ⟨_, rfl⟩
  have b57 : Bd v55 (0) (3) := (by rw [← ee56]; exact b3.2.2.2.2.2.2.1 28 (by decide))
  obtain ⟨v58, ee59⟩ : ∃ z : Int32, f19 2 = z := ⟨_, rfl⟩
  have b60 : Bd v58 (0) (40000) := (by rw [← ee59]; exact b21 2)
  obtain ⟨v61, ee62⟩ : ∃ z : Int32, f1 31 = z := ⟨_, rfl⟩
  have b63 : Bd v61 (0) (12) := (by rw [← ee62]; exact b3.2.1 31 (by decide))
  obtain ⟨v64, ee65⟩ : ∃ z : Int32, f1 30 = z := ⟨_, rfl⟩
  have b66 : Bd v64 (0) (12) := (by rw [← ee65]; exact b3.1 30 (by decide))
  obtain ⟨v67, ee68⟩ : ∃ z : Int32, f1 33 = z := ⟨_, rfl⟩
  have b69 : Bd v67 (0) (12) := (by rw [← ee68]; exact b3.2.2.2.1 33 (by decide))
  obtain ⟨v70, ee71⟩ : ∃ z : Int32, f1 36 = z := ⟨_, rfl⟩
  have b72 : Bd v70 (0) (8) := (by rw [← ee71]; exact b3.2.2.2.2.1 36 (by decide))
  obtain ⟨v73, ee74⟩ : ∃ z : Int32, f1 38 = z := ⟨_, rfl⟩
  have b75 : Bd v73 (0) (3) := (by rw [← ee74]; exact b3.2.2.2.2.2.2.1 38 (by decide))
  obtain ⟨v76, ee77⟩ : ∃ z : Int32, f19 3 = z := ⟨_, rfl⟩
  have b78 : Bd v76 (0) (40000) := (by rw [← ee77]; exact b21 3)
  have q79 : elm (S 7) 1 = v4.toInt := (elm_of c2 1).trans (congrArg Int32.toInt (ee5))
  have q80 : elm (S 7) 0 = v7.toInt := (elm_of c2 0).trans (congrArg Int32.toInt (ee8))
  have q81 : elm (S 7) 3 = v10.toInt := (elm_of c2 3).trans (congrArg Int32.toInt (ee11))
  have q82 : elm (S 7) 6 = v13.toInt := (elm_of c2 6).trans (congrArg Int32.toInt (ee14))
  have q83 : elm (S 7) 8 = v16.toInt := (elm_of c2 8).trans (congrArg Int32.toInt (ee17))
  have q84 : elm (S 6) 0 = v22.toInt := (elm_of c20 0).trans (congrArg Int32.toInt (ee23))
  have q85 : elm (S 7) 11 = v25.toInt := (elm_of c2 11).trans (congrArg Int32.toInt (ee26))
  have q86 : elm (S 7) 10 = v28.toInt := (elm_of c2 10).trans (congrArg Int32.toInt (ee29))
  have q87 : elm (S 7) 13 = v31.toInt := (elm_of c2 13).trans (congrArg Int32.toInt (ee32))
  have q88 : elm (S 7) 16 = v34.toInt := (elm_of c2 16).trans (congrArg Int32.toInt (ee35))
  have q89 : elm (S 7) 18 = v37.toInt := (elm_of c2 18).trans (congrArg Int32.toInt (ee38))
  have q90 : elm (S 6) 1 = v40.toInt := (elm_of c20 1).trans (congrArg Int32.toInt (ee41))
  have q91 : elm (S 7) 21 = v43.toInt := (elm_of c2 21).trans (congrArg Int32.toInt (ee44))
  have q92 : elm (S 7) 20 = v46.toInt := (elm_of c2 20).trans (congrArg Int32.toInt (ee47))
  have q93 : elm (S 7) 23 = v49.toInt := (elm_of c2 23).trans (congrArg Int32.toInt (ee50))
  have q94 : elm (S 7) 26 = v52.toInt := (elm_of c2 26).trans (congrArg Int32.toInt (ee53))
  have q95 : elm (S 7) 28 = v55.toInt := (elm_of c2 28).trans (congrArg Int32.toInt (ee56))
  have q96 : elm (S 6) 2 = v58.toInt := (elm_of c20 2).trans (congrArg Int32.toInt (ee59))
  have q97 : elm (S 7) 31 = v61.toInt := (elm_of c2 31).trans (congrArg Int32.toInt (ee62))
  have q98 : elm (S 7) 30 = v64.toInt := (elm_of c2 30).trans (congrArg Int32.toInt (ee65))
  have q99 : elm (S 7) 33 = v67.toInt := (elm_of c2 33).trans (congrArg Int32.toInt (ee68))
  have q100 : elm (S 7) 36 = v70.toInt := (elm_of c2 36).trans (congrArg Int32.toInt (ee71))
  have q101 : elm (S 7) 38 = v73.toInt := (elm_of c2 38).trans (congrArg Int32.toInt (ee74))
  have q102 : elm (S 6) 3 = v76.toInt := (elm_of c20 3).trans (congrArg Int32.toInt (ee77))
  obtain ⟨f103, c104, b105⟩ := invM_12 hI
  obtain ⟨f106, c107, b108⟩ := invM_9 hI
  obtain ⟨v109, ee110⟩ : ∃ z : Int32, f1 9 = z := ⟨_, rfl⟩
  have b111 : Bd v109 (0) (40) := (by rw [← ee110]; exact b3.2.2.2.2.2.2.2 9 (by decide))
  obtain ⟨v112, ee113⟩ : ∃ z : Int32, f1 19 = z := ⟨_, rfl⟩
  have b114 : Bd v112 (0) (40) := (by rw [← ee113]; exact b3.2.2.2.2.2.2.2 19 (by decide))
  obtain ⟨v115, ee116⟩ : ∃ z : Int32, f1 29 = z := ⟨_, rfl⟩
  have b117 : Bd v115 (0) (40) := (by rw [← ee116]; exact b3.2.2.2.2.2.2.2 29 (by decide))
  obtain ⟨v118, ee119⟩ : ∃ z : Int32, f1 39 = z := ⟨_, rfl⟩
  have b120 : Bd v118 (0) (40) := (by rw [← ee119]; exact b3.2.2.2.2.2.2.2 39 (by decide))
  refine lv_aload_n hx hb dX12_shove_0 rfl (lv_at hl 0 rfl) ?_
  refine lv_iconst (v := 0) hx hb dX12_shove_1 (by decide) ?_
  obtain ⟨v121, v122, v124, v126, v128, v129, w130, v131, v133, v134, v135, v136, v138, v140, v142, v144, v146, v147, v148, c149, b123, b125, b127, b132, b137, b139, b141, b143, b145⟩ := invM_0 hI
  have c149 : S 0 = .inr (12, [.int v121, .ref (ad 1), .ref (ad 2), .ref (ad 3), .ref (ad 4), .ref (ad 5), .int v122, .int v124, .int v126, .int v128, .int v129, .long w130, .int v131, .int v133, .int v134, .int v135, .ref (ad 6), .ref (ad 7), .ref (ad 8), .ref (ad 9), .ref (ad 10), .ref (ad 11), .ref (ad 12), .ref (ad 13), .ref (ad 14), .ref (ad 15), .int v136, .int v138, .ref (ad 16), .int v140, .int v142, .int v144, .int v146, .int v147, .ref (ad 17), .ref (ad 18), .int v148, .ref (ad 19)]) := c149
  refine xputi E hs hQ 0 (by decide) c149 rfl 0 (by decide) q1468 rfl rfl (Nat.le_of_ble_eq_true rfl) dX12_shove_2 (fun H locs S150 eS150 hQ => ?_)
  have hI := invM_up_0 hI eS150 ⟨0, v122, v124, v126, v128, v129, w130, v131, v133, v134, v135, v136, v138, v140, v142, v144, v146, v147, v148, rfl, b123, b125, b127, b132, b137, b139, b141, b143, b145⟩
  have c151 : S150 0 = .inr (12, [.int 0, .ref (ad 1), .ref (ad 2), .ref (ad 3), .ref (ad 4), .ref (ad 5), .int v122, .int v124, .int v126, .int v128, .int v129, .long w130, .int v131, .int v133, .int v134, .int v135, .ref (ad 6), .ref (ad 7), .ref (ad 8), .ref (ad 9), .ref (ad 10), .ref (ad 11), .ref (ad 12), .ref (ad 13), .ref (ad 14), .ref (ad 15), .int v136, .int v138, .ref (ad 16), .int v140, .int v142, .int v144, .int v146, .int v147, .ref (ad 17), .ref (ad 18), .int v148, .ref (ad 19)]) := up_at eS150 rfl
  refine lv_aload_n hx hb dX12_shove_5 rfl (lv_at hl 0 rfl) ?_
  refine lv_iload_n hx hb dX12_shove_6 rfl (lv_at hl 1 rfl) ?_
  have c152 : S150 7 = .inl (g.2 0, 50, .inl f1) := (up_ne eS150 (by decide) c2)
  refine xcVi E hs hQ hml hl.1 0 (gX12_isThing_0 l g ad hD S150 hI a1) mX12_isThing q1766 (by decide) c151 rfl rfl ⟨(Nat.le_of_ble_eq_true rfl), (Nat.le_of_ble_eq_true rfl)⟩ ⟨(Nat.le_of_ble_eq_true rfl), (Nat.le_of_ble_eq_true rfl)⟩ (Nat.le_of_ble_eq_true rfl) rfl dX12_shove_7 (fun r153 S153 H locs hp153 hQ _ => ?_)
  obtain ⟨rfl, b153, g153_0⟩ := hp153
  have q154 : elm (S150 7) 6 = v13.toInt := (elm_of c152 6).trans (congrArg Int32.toInt (ee14))
  refine lv_if_eq (tgt := 35) hx hb dX12_shove_10 (by decide) (fun k155 => ?_) (fun k155 => ?_)
  · have h156 := ib_eq k155
    have b157 : Bd r153 (0) (0) := ⟨(b153).1, ((rf_eq b153 (by decide : Bd 0 (0) (0)) h156).1).2⟩
    clear g153_0
    refine lv_bipush (v := (-2)) hx hb dX12_shove_35 (by decide) ?_
    have q158 : elm (S150 7) 1 = v4.toInt := (elm_of c152 1).trans (congrArg Int32.toInt (ee5))
    have q159 : elm (S150 7) 0 = v7.toInt := (elm_of c152 0).trans (congrArg Int32.toInt (ee8))
    have q160 : elm (S150 7) 3 = v10.toInt := (elm_of c152 3).trans (congrArg Int32.toInt (ee11))
    have q161 : elm (S150 7) 8 = v16.toInt := (elm_of c152 8).trans (congrArg Int32.toInt (ee17))
    have c162 : S150 6 = .inl (g.2 0, 5, .inl f19) := (up_ne eS150 (by decide) c20)
    have q163 : elm (S150 6) 0 = v22.toInt := (elm_of c162 0).trans (congrArg Int32.toInt (ee23))
    have q164 : elm (S150 7) 11 = v25.toInt := (elm_of c152 11).trans (congrArg Int32.toInt (ee26))
    have q165 : elm (S150 7) 10 = v28.toInt := (elm_of c152 10).trans (congrArg Int32.toInt (ee29))
    have q166 : elm (S150 7) 13 = v31.toInt := (elm_of c152 13).trans (congrArg Int32.toInt (ee32))
    have q167 : elm (S150 7) 16 = v34.toInt := (elm_of c152 16).trans (congrArg Int32.toInt (ee35))
    have q168 : elm (S150 7) 18 = v37.toInt := (elm_of c152 18).trans (congrArg Int32.toInt (ee38))
    have q169 : elm (S150 6) 1 = v40.toInt := (elm_of c162 1).trans (congrArg Int32.toInt (ee41))
    have q170 : elm (S150 7) 21 = v43.toInt := (elm_of c152 21).trans (congrArg Int32.toInt (ee44))
    have q171 : elm (S150 7) 20 = v46.toInt := (elm_of c152 20).trans (congrArg Int32.toInt (ee47))
    have q172 : elm (S150 7) 23 = v49.toInt := (elm_of c152 23).trans (congrArg Int32.toInt (ee50))
    have q173 : elm (S150 7) 26 = v52.toInt := (elm_of c152 26).trans (congrArg Int32.toInt (ee53))
    have q174 : elm (S150 7) 28 = v55.toInt := (elm_of c152 28).trans (congrArg Int32.toInt (ee56))
    have q175 : elm (S150 6) 2 = v58.toInt := (elm_of c162 2).trans (congrArg Int32.toInt (ee59))
    have q176 : elm (S150 7) 31 = v61.toInt := (elm_of c152 31).trans (congrArg Int32.toInt (ee62))
    have q177 : elm (S150 7) 30 = v64.toInt := (elm_of c152 30).trans (congrArg Int32.toInt (ee65))
    have q178 : elm (S150 7) 33 = v67.toInt := (elm_of c152 33).trans (congrArg Int32.toInt (ee68))
    have q179 : elm (S150 7) 36 = v70.toInt := (elm_of c152 36).trans (congrArg Int32.toInt (ee71))
    have q180 : elm (S150 7) 38 = v73.toInt := (elm_of c152 38).trans (congrArg Int32.toInt (ee74))
    have q181 : elm (S150 6) 3 = v76.toInt := (elm_of c162 3).trans (congrArg Int32.toInt (ee77))
    exact xri E hr hlk hQ (⟨hI, (up_o o_refl eS150 (by decide)), (by omega), (by omega), (by omega), (by omega), (by omega), (by omega), (by omega), (by omega), (by omega), (by omega), (by omega), (by omega), (by omega), (by omega), (by omega), (by omega), (by omega), (by omega), (by omega), (by omega), ⟨by omega, by omega⟩, ⟨by omega, by omega⟩, ⟨by omega, by omega⟩, ⟨by omega, by omega⟩, ⟨by omega, by omega⟩, ⟨by omega, by omega⟩, ⟨by omega, by omega⟩, ⟨by omega, by omega⟩, (at_tr hAT0 (up_eq (j := 7) eS150 (by decide)) (up_eq (j := 12) eS150 (by decide))), (at_tr hAT1 (up_eq (j := 7) eS150 (by decide)) (up_eq (j := 12) eS150 (by decide))), (at_tr hAT2 (up_eq (j := 7) eS150 (by decide)) (up_eq (j := 12) eS150 (by decide))), (at_tr hAT3 (up_eq (j := 7) eS150 (by decide)) (up_eq (j := 12) eS150 (by decide)))⟩) dX12_shove_37
  · have h182 := ib_ne k155
    have b183 : Bd r153 (1) (1) := rf_nlo b153 (by decide : Bd 0 (0) (0)) h182
    have g184 := g153_0.resolve_left (by omega)
    clear g153_0
    have b185 : Bd a1 (0) (7) := ⟨by omega, by omega⟩
    have b186 : Bd v13 (1) (8) := ⟨by omega, (b15).2⟩
    refine lv_iload_n hx hb dX12_shove_13 rfl (lv_at hl 2 rfl) ?_
    refine lv_i2l hx hb dX12_shove_14 rfl ?_
    refine lv_topl (fun w187 e188 => ?_)
    have t189 : w187.toInt = a2.toInt := by rw [e188]; exact i2l_i _
    have b190 : BdL w187 (-2147483648) (2147483647) := (by have h1 := ((ib_full a2)).1; have h2 := ((ib_full a2)).2; exact ⟨by omega, by omega⟩)
    refine lv_lconst (v := 0) hx hb dX12_shove_15 (by decide) ?_
    refine lv_ldc2 (v := 400) hx hb E.2.2.1 (E.2.2.2.1 _ q1828) dX12_shove_16 ?_
    have q191 : (0 : Int64).toInt = 0 := by decide
    have q192 : (400 : Int64).toInt = 400 := by decide
    refine xcSi E hs hQ hml hl.1 (gX12_in l g ad hD S150 hI w187 0 400) mX12_in q1591 rfl ⟨(Nat.le_of_ble_eq_true rfl), (Nat.le_of_ble_eq_true rfl)⟩ ⟨(Nat.le_of_ble_eq_true rfl), (Nat.le_of_ble_eq_true rfl)⟩ (Nat.le_of_ble_eq_true rfl) rfl dX12_shove_19 (fun r193 S193 H locs hp193 hQ => ?_)
    obtain ⟨rfl, b193, g193_0, u193_0⟩ := hp193
    refine lv_if_eq (tgt := 35) hx hb dX12_shove_22 (by decide) (fun k194 => ?_) (fun k194 => ?_)
    · have h195 := ib_eq k194
      have b196 : Bd r193 (0) (0) := ⟨(b193).1, ((rf_eq b193 (by decide : Bd 0 (0) (0)) h195).1).2⟩
      clear g193_0
      refine lv_bipush (v := (-2)) hx hb dX12_shove_35 (by decide) ?_
      have q197 : elm (S150 7) 1 = v4.toInt := (elm_of c152 1).trans (congrArg Int32.toInt (ee5))
      have q198 : elm (S150 7) 0 = v7.toInt := (elm_of c152 0).trans (congrArg Int32.toInt (ee8))
      have q199 : elm (S150 7) 3 = v10.toInt := (elm_of c152 3).trans (congrArg Int32.toInt (ee11))
      have q200 : elm (S150 7) 8 = v16.toInt := (elm_of c152 8).trans (congrArg Int32.toInt (ee17))
      have c201 : S150 6 = .inl (g.2 0, 5, .inl f19) := (up_ne eS150 (by decide) c20)
      have q202 : elm (S150 6) 0 = v22.toInt := (elm_of c201 0).trans (congrArg Int32.toInt (ee23))
      have q203 : elm (S150 7) 11 = v25.toInt := (elm_of c152 11).trans (congrArg Int32.toInt (ee26))
      have q204 : elm (S150 7) 10 = v28.toInt := (elm_of c152 10).trans (congrArg Int32.toInt (ee29))
      have q205 : elm (S150 7) 13 = v31.toInt := (elm_of c152 13).trans (congrArg Int32.toInt (ee32))
      have q206 : elm (S150 7) 16 = v34.toInt := (elm_of c152 16).trans (congrArg Int32.toInt (ee35))
      have q207 : elm (S150 7) 18 = v37.toInt := (elm_of c152 18).trans (congrArg Int32.toInt (ee38))
      have q208 : elm (S150 6) 1 = v40.toInt := (elm_of c201 1).trans (congrArg Int32.toInt (ee41))
      have q209 : elm (S150 7) 21 = v43.toInt := (elm_of c152 21).trans (congrArg Int32.toInt (ee44))
      have q210 : elm (S150 7) 20 = v46.toInt := (elm_of c152 20).trans (congrArg Int32.toInt (ee47))
      have q211 : elm (S150 7) 23 = v49.toInt := (elm_of c152 23).trans (congrArg Int32.toInt (ee50))
      have q212 : elm (S150 7) 26 = v52.toInt := (elm_of c152 26).trans (congrArg Int32.toInt (ee53))
      have q213 : elm (S150 7) 28 = v55.toInt := (elm_of c152 28).trans (congrArg Int32.toInt (ee56))
      have q214 : elm (S150 6) 2 = v58.toInt := (elm_of c201 2).trans (congrArg Int32.toInt (ee59))
      have q215 : elm (S150 7) 31 = v61.toInt := (elm_of c152 31).trans (congrArg Int32.toInt (ee62))
      have q216 : elm (S150 7) 30 = v64.toInt := (elm_of c152 30).trans (congrArg Int32.toInt (ee65))
      have q217 : elm (S150 7) 33 = v67.toInt := (elm_of c152 33).trans (congrArg Int32.toInt (ee68))
      have q218 : elm (S150 7) 36 = v70.toInt := (elm_of c152 36).trans (congrArg Int32.toInt (ee71))
      have q219 : elm (S150 7) 38 = v73.toInt := (elm_of c152 38).trans (congrArg Int32.toInt (ee74))
      have q220 : elm (S150 6) 3 = v76.toInt := (elm_of c201 3).trans (congrArg Int32.toInt (ee77))
      exact xri E hr hlk hQ (⟨hI, (up_o o_refl eS150 (by decide)), (by omega), (by omega), (by omega), (by omega), (by omega), (by omega), (by omega), (by omega), (by omega), (by omega), (by omega), (by omega), (by omega), (by omega), (by omega), (by omega), (by omega), (by omega), (by omega), (by omega), ⟨by omega, by omega⟩, ⟨by omega, by omega⟩, ⟨by omega, by omega⟩, ⟨by omega, by omega⟩, ⟨by omega, by omega⟩, ⟨by omega, by omega⟩, ⟨by omega, by omega⟩, ⟨by omega, by omega⟩, (at_tr hAT0 (up_eq (j := 7) eS150 (by decide)) (up_eq (j := 12) eS150 (by decide))), (at_tr hAT1 (up_eq (j := 7) eS150 (by decide)) (up_eq (j := 12) eS150 (by decide))), (at_tr hAT2 (up_eq (j := 7) eS150 (by decide)) (up_eq (j := 12) eS150 (by decide))), (at_tr hAT3 (up_eq (j := 7) eS150 (by decide)) (up_eq (j := 12) eS150 (by decide)))⟩) dX12_shove_37
    · have h221 := ib_ne k194
      have b222 : Bd r193 (1) (1) := rf_nlo b193 (by decide : Bd 0 (0) (0)) h221
      have g223 := g193_0.resolve_left (by omega)
      clear g193_0
      have b224 : BdL w187 (0) (400) := ⟨by omega, by omega⟩
      have b225 : Bd a2 (0) (400) := ⟨by omega, by omega⟩
      refine lv_iload_n hx hb dX12_shove_25 rfl (lv_at hl 3 rfl) ?_
      refine lv_i2l hx hb dX12_shove_26 rfl ?_
      refine lv_topl (fun w226 e227 => ?_)
      have t228 : w226.toInt = a3.toInt := by rw [e227]; exact i2l_i _
      have b229 : BdL w226 (-2147483648) (2147483647) := (by have h1 := ((ib_full a3)).1; have h2 := ((ib_full a3)).2; exact ⟨by omega, by omega⟩)
      refine lv_lconst (v := 0) hx hb dX12_shove_27 (by decide) ?_
      refine lv_lconst (v := 1) hx hb dX12_shove_28 (by decide) ?_
      have q230 : (1 : Int64).toInt = 1 := by decide
      refine xcSi E hs hQ hml hl.1 (gX12_in l g ad hD S150 hI w226 0 1) mX12_in q1591 rfl ⟨(Nat.le_of_ble_eq_true rfl), (Nat.le_of_ble_eq_true rfl)⟩ ⟨(Nat.le_of_ble_eq_true rfl), (Nat.le_of_ble_eq_true rfl)⟩ (Nat.le_of_ble_eq_true rfl) rfl dX12_shove_29 (fun r231 S231 H locs hp231 hQ => ?_)
      obtain ⟨rfl, b231, g231_0, u231_0⟩ := hp231
      refine lv_if_ne (tgt := 38) hx hb dX12_shove_32 (by decide) (fun k232 => ?_) (fun k232 => ?_)
      · have h233 := ib_ne k232
        have b234 : Bd r231 (1) (1) := rf_nlo b231 (by decide : Bd 0 (0) (0)) h233
        have g235 := g231_0.resolve_left (by omega)
        clear g231_0
        have b236 : BdL w226 (0) (1) := ⟨by omega, by omega⟩
        have b237 : Bd a3 (0) (1) := ⟨by omega, by omega⟩
        refine lv_aload_n hx hb dX12_shove_38 rfl (lv_at hl 0 rfl) ?_
        refine xcVv E hs hQ hml hl.1 0 (gX12_lays_0 l g ad hD S150 hI (at_tr hAT0 (up_eq (j := 7) eS150 (by decide)) (up_eq (j := 12) eS150 (by decide)))) mX12_lays q1820 (by decide) c151 rfl rfl ⟨(Nat.le_of_ble_eq_true rfl), (Nat.le_of_ble_eq_true rfl)⟩ ⟨(Nat.le_of_ble_eq_true rfl), (Nat.le_of_ble_eq_true rfl)⟩ (Nat.le_of_ble_eq_true rfl) rfl dX12_shove_39 (fun S238 H locs hp238 hQ _ => ?_)
        obtain ⟨hI, o238⟩ := hp238
        refine lv_aload_n hx hb dX12_shove_42 rfl (lv_at hl 0 rfl) ?_
        have c239 : S238 7 = .inl (g.2 0, 50, .inl f1) := ((o238 7 (by decide)).trans c152)
        have c241 : S238 0 = .inr (12, [.int 0, .ref (ad 1), .ref (ad 2), .ref (ad 3), .ref (ad 4), .ref (ad 5), .int v122, .int v124, .int v126, .int v128, .int v129, .long w130, .int v131, .int v133, .int v134, .int v135, .ref (ad 6), .ref (ad 7), .ref (ad 8), .ref (ad 9), .ref (ad 10), .ref (ad 11), .ref (ad 12), .ref (ad 13), .ref (ad 14), .ref (ad 15), .int v136, .int v138, .ref (ad 16), .int v140, .int v142, .int v144, .int v146, .int v147, .ref (ad 17), .ref (ad 18), .int v148, .ref (ad 19)]) := ((o238 0 (by decide)).trans c151)
        refine xcVi E hs hQ hml hl.1 0 (gX12_isFull_0 l g ad hD S238 hI ) mX12_isFull q2104 (by decide) c241 rfl rfl ⟨(Nat.le_of_ble_eq_true rfl), (Nat.le_of_ble_eq_true rfl)⟩ ⟨(Nat.le_of_ble_eq_true rfl), (Nat.le_of_ble_eq_true rfl)⟩ (Nat.le_of_ble_eq_true rfl) rfl dX12_shove_43 (fun r240 S240 H locs hp240 hQ _ => ?_)
        obtain ⟨rfl, b240, g240_0⟩ := hp240
        have q242 : elm (S238 7) 9 = v109.toInt := (elm_of c239 9).trans (congrArg Int32.toInt (ee110))
        refine lv_if_ne (tgt := 64) hx hb dX12_shove_46 (by decide) (fun k243 => ?_) (fun k243 => ?_)
        · have h244 := ib_ne k243
          have b245 : Bd r240 (1) (1) := rf_nlo b240 (by decide : Bd 0 (0) (0)) h244
          clear g240_0
          refine lv_bipush (v := (-5)) hx hb dX12_shove_64 (by decide) ?_
          have q246 : elm (S238 7) 1 = v4.toInt := (elm_of c239 1).trans (congrArg Int32.toInt (ee5))
          have q247 : elm (S238 7) 0 = v7.toInt := (elm_of c239 0).trans (congrArg Int32.toInt (ee8))
          have q248 : elm (S238 7) 3 = v10.toInt := (elm_of c239 3).trans (congrArg Int32.toInt (ee11))
          have q249 : elm (S238 7) 6 = v13.toInt := (elm_of c239 6).trans (congrArg Int32.toInt (ee14))
          have q250 : elm (S238 7) 8 = v16.toInt := (elm_of c239 8).trans (congrArg Int32.toInt (ee17))
          have c251 : S238 6 = .inl (g.2 0, 5, .inl f19) := ((o238 6 (by decide)).trans (up_ne eS150 (by decide) c20))
          have q252 : elm (S238 6) 0 = v22.toInt := (elm_of c251 0).trans (congrArg Int32.toInt (ee23))
          have q253 : elm (S238 7) 11 = v25.toInt := (elm_of c239 11).trans (congrArg Int32.toInt (ee26))
          have q254 : elm (S238 7) 10 = v28.toInt := (elm_of c239 10).trans (congrArg Int32.toInt (ee29))
          have q255 : elm (S238 7) 13 = v31.toInt := (elm_of c239 13).trans (congrArg Int32.toInt (ee32))
          have q256 : elm (S238 7) 16 = v34.toInt := (elm_of c239 16).trans (congrArg Int32.toInt (ee35))
          have q257 : elm (S238 7) 18 = v37.toInt := (elm_of c239 18).trans (congrArg Int32.toInt (ee38))
          have q258 : elm (S238 6) 1 = v40.toInt := (elm_of c251 1).trans (congrArg Int32.toInt (ee41))
          have q259 : elm (S238 7) 21 = v43.toInt := (elm_of c239 21).trans (congrArg Int32.toInt (ee44))
          have q260 : elm (S238 7) 20 = v46.toInt := (elm_of c239 20).trans (congrArg Int32.toInt (ee47))
          have q261 : elm (S238 7) 23 = v49.toInt := (elm_of c239 23).trans (congrArg Int32.toInt (ee50))
          have q262 : elm (S238 7) 26 = v52.toInt := (elm_of c239 26).trans (congrArg Int32.toInt (ee53))
          have q263 : elm (S238 7) 28 = v55.toInt := (elm_of c239 28).trans (congrArg Int32.toInt (ee56))
          have q264 : elm (S238 6) 2 = v58.toInt := (elm_of c251 2).trans (congrArg Int32.toInt (ee59))
          have q265 : elm (S238 7) 31 = v61.toInt := (elm_of c239 31).trans (congrArg Int32.toInt (ee62))
          have q266 : elm (S238 7) 30 = v64.toInt := (elm_of c239 30).trans (congrArg Int32.toInt (ee65))
          have q267 : elm (S238 7) 33 = v67.toInt := (elm_of c239 33).trans (congrArg Int32.toInt (ee68))
          have q268 : elm (S238 7) 36 = v70.toInt := (elm_of c239 36).trans (congrArg Int32.toInt (ee71))
          have q269 : elm (S238 7) 38 = v73.toInt := (elm_of c239 38).trans (congrArg Int32.toInt (ee74))
          have q270 : elm (S238 6) 3 = v76.toInt := (elm_of c251 3).trans (congrArg Int32.toInt (ee77))
          exact xri E hr hlk hQ (⟨hI, (o_trans (up_o o_refl eS150 (by decide)) o238 (by decide)), (by omega), (by omega), (by omega), (by omega), (by omega), (by omega), (by omega), (by omega), (by omega), (by omega), (by omega), (by omega), (by omega), (by omega), (by omega), (by omega), (by omega), (by omega), (by omega), (by omega), ⟨by omega, by omega⟩, ⟨by omega, by omega⟩, ⟨by omega, by omega⟩, ⟨by omega, by omega⟩, ⟨by omega, by omega⟩, ⟨by omega, by omega⟩, ⟨by omega, by omega⟩, ⟨by omega, by omega⟩, (at_tr hAT0 ((o238 7 (by decide)).trans (up_eq (j := 7) eS150 (by decide))) ((o238 12 (by decide)).trans (up_eq (j := 12) eS150 (by decide)))), (at_tr hAT1 ((o238 7 (by decide)).trans (up_eq (j := 7) eS150 (by decide))) ((o238 12 (by decide)).trans (up_eq (j := 12) eS150 (by decide)))), (at_tr hAT2 ((o238 7 (by decide)).trans (up_eq (j := 7) eS150 (by decide))) ((o238 12 (by decide)).trans (up_eq (j := 12) eS150 (by decide)))), (at_tr hAT3 ((o238 7 (by decide)).trans (up_eq (j := 7) eS150 (by decide))) ((o238 12 (by decide)).trans (up_eq (j := 12) eS150 (by decide))))⟩) dX12_shove_66
        · have h271 := ib_eq k243
          have b272 : Bd r240 (0) (0) := ⟨(b240).1, ((rf_eq b240 (by decide : Bd 0 (0) (0)) h271).1).2⟩
          have g273 := g240_0.resolve_left (by omega)
          clear g240_0
          have b274 : Bd v109 (0) (39) := ⟨(b111).1, by omega⟩
          refine lv_aload_n hx hb dX12_shove_49 rfl (lv_at hl 0 rfl) ?_
          refine xget E hQ 0 (by decide) c241 rfl 25 (by decide) q1493 rfl dX12_shove_50 ?_
          refine lv_sipush (v := 401) hx hb dX12_shove_53 (by decide) ?_
          refine lv_iload_n hx hb dX12_shove_56 rfl (lv_at hl 1 rfl) ?_
          refine lv_imul hx hb dX12_shove_57 ?_
          refine lv_topi (fun z275 e276 => ?_)
          have t277 := ib_cmul (q := 401) e276 (by decide) (by decide) b185 (by decide) (by decide)
          have b278 : Bd z275 (0) (2807) := ib_mulb t277 (by decide) b185
          refine lv_iload_n hx hb dX12_shove_58 rfl (lv_at hl 2 rfl) ?_
          refine lv_iadd hx hb dX12_shove_59 ?_
          refine lv_topi (fun z279 e280 => ?_)
          have t281 := ib_add e280 b278 b225 (by decide) (by decide)
          have b282 : Bd z279 (0) (3207) := ib_addb t281 b278 b225
          obtain ⟨f283, c284⟩ := invM_15 hI
          refine xiald E hQ 15 (by decide) c284 (ib_in b282 (by decide) (by decide)) dX12_shove_60 ?_
          refine lv_topi (fun z286 e287 => ?_)
          refine lv_if_eq (tgt := 67) hx hb dX12_shove_61 (by decide) (fun k288 => ?_) (fun k288 => ?_)
          · have h289 := ib_eq k288
            have b290 : Bd z286 (0) (0) := ⟨((rf_eq (ib_full z286) (by decide : Bd 0 (0) (0)) h289).1).1, ((rf_eq (ib_full z286) (by decide : Bd 0 (0) (0)) h289).1).2⟩
            refine lv_aload_n hx hb dX12_shove_67 rfl (lv_at hl 0 rfl) ?_
            refine lv_iconst (v := 1) hx hb dX12_shove_68 (by decide) ?_
            refine lv_iload_n hx hb dX12_shove_69 rfl (lv_at hl 1 rfl) ?_
            refine lv_iload_n hx hb dX12_shove_70 rfl (lv_at hl 2 rfl) ?_
            refine lv_iload_n hx hb dX12_shove_71 rfl (lv_at hl 3 rfl) ?_
            have q291 : (1 : Int32).toInt = 1 := by decide
            refine xcVv E hs hQ hml hl.1 0 (gX12_acts_0 l g ad hD S238 hI 1 a1 a2 a3 (ib_wk (by decide : Bd 1 (1) (1)) (by decide) (by decide)) b185 b225 b237 (by omega) (at_tr hAT0 ((o238 7 (by decide)).trans (up_eq (j := 7) eS150 (by decide))) ((o238 12 (by decide)).trans (up_eq (j := 12) eS150 (by decide)))) (at_tr hAT1 ((o238 7 (by decide)).trans (up_eq (j := 7) eS150 (by decide))) ((o238 12 (by decide)).trans (up_eq (j := 12) eS150 (by decide)))) (at_tr hAT2 ((o238 7 (by decide)).trans (up_eq (j := 7) eS150 (by decide))) ((o238 12 (by decide)).trans (up_eq (j := 12) eS150 (by decide)))) (at_tr hAT3 ((o238 7 (by decide)).trans (up_eq (j := 7) eS150 (by decide))) ((o238 12 (by decide)).trans (up_eq (j := 12) eS150 (by decide)))) (fun h => absurd h (by decide))) mX12_acts q2108 (by decide) c241 rfl rfl ⟨(Nat.le_of_ble_eq_true rfl), (Nat.le_of_ble_eq_true rfl)⟩ ⟨(Nat.le_of_ble_eq_true rfl), (Nat.le_of_ble_eq_true rfl)⟩ (Nat.le_of_ble_eq_true rfl) rfl dX12_shove_72 (fun S292 H locs hp292 hQ _ => ?_)
            obtain ⟨hI, o292, g292_0, g292_1, g292_2, g292_3, g292_4, g292_5, g292_6, g292_7, g292_8, g292_9, g292_10, g292_11, g292_12, g292_13, g292_14, g292_15, g292_16, g292_17, g292_18, g292_19, g292_20, g292_21, g292_22, g292_23, u292_0, u292_1, u292_2, u292_3⟩ := hp292
            obtain ⟨f293, c294, b295⟩ := invM_7 hI
            obtain ⟨v296, ee297⟩ : ∃ z : Int32, f293 9 = z := ⟨_, rfl⟩
            have b298 : Bd v296 (0) (40) := (by rw [← ee297]; exact b295.2.2.2.2.2.2.2 9 (by decide))
            have q299 : elm (S292 7) 9 = v296.toInt := (elm_of c294 9).trans (congrArg Int32.toInt (ee297))
            have b300 : Bd v296 (1) (40) := ⟨by omega, (b298).2⟩
            have q301 : elm (S238 7) 0 = v7.toInt := (elm_of c239 0).trans (congrArg Int32.toInt (ee8))
            obtain ⟨v302, ee303⟩ : ∃ z : Int32, f293 0 = z := ⟨_, rfl⟩
            have b304 : Bd v302 (0) (12) := (by rw [← ee303]; exact b295.1 0 (by decide))
            have q305 : elm (S292 7) 0 = v302.toInt := (elm_of c294 0).trans (congrArg Int32.toInt (ee303))
            have b306 : Bd v302 (1) (12) := ⟨by omega, (b304).2⟩
            have b307 : Bd v7 (1) (12) := ⟨by omega, (b9).2⟩
            have q308 : elm (S238 7) 1 = v4.toInt := (elm_of c239 1).trans (congrArg Int32.toInt (ee5))
            obtain ⟨v309, ee310⟩ : ∃ z : Int32, f293 1 = z := ⟨_, rfl⟩
            have b311 : Bd v309 (0) (12) := (by rw [← ee310]; exact b295.2.1 1 (by decide))
            have q312 : elm (S292 7) 1 = v309.toInt := (elm_of c294 1).trans (congrArg Int32.toInt (ee310))
            have b313 : Bd v309 (1) (12) := ⟨by omega, (b311).2⟩
            have b314 : Bd v4 (1) (12) := ⟨by omega, (b6).2⟩
            have q315 : elm (S238 7) 3 = v10.toInt := (elm_of c239 3).trans (congrArg Int32.toInt (ee11))
            obtain ⟨v316, ee317⟩ : ∃ z : Int32, f293 3 = z := ⟨_, rfl⟩
            have b318 : Bd v316 (0) (12) := (by rw [← ee317]; exact b295.2.2.2.1 3 (by decide))
            have q319 : elm (S292 7) 3 = v316.toInt := (elm_of c294 3).trans (congrArg Int32.toInt (ee317))
            have b320 : Bd v10 (1) (12) := ⟨by omega, (b12).2⟩
            have b321 : Bd v316 (1) (12) := ⟨by omega, (b318).2⟩
            have q322 : elm (S238 7) 6 = v13.toInt := (elm_of c239 6).trans (congrArg Int32.toInt (ee14))
            obtain ⟨v323, ee324⟩ : ∃ z : Int32, f293 6 = z := ⟨_, rfl⟩
            have b325 : Bd v323 (0) (8) := (by rw [← ee324]; exact b295.2.2.2.2.1 6 (by decide))
            have q326 : elm (S292 7) 6 = v323.toInt := (elm_of c294 6).trans (congrArg Int32.toInt (ee324))
            have b327 : Bd v323 (1) (8) := ⟨by omega, (b325).2⟩
            have q328 : elm (S238 7) 8 = v16.toInt := (elm_of c239 8).trans (congrArg Int32.toInt (ee17))
            obtain ⟨v329, ee330⟩ : ∃ z : Int32, f293 8 = z := ⟨_, rfl⟩
            have b331 : Bd v329 (0) (3) := (by rw [← ee330]; exact b295.2.2.2.2.2.2.1 8 (by decide))
            have q332 : elm (S292 7) 8 = v329.toInt := (elm_of c294 8).trans (congrArg Int32.toInt (ee330))
            have q333 : elm (S238 7) 10 = v28.toInt := (elm_of c239 10).trans (congrArg Int32.toInt (ee29))
            obtain ⟨v334, ee335⟩ : ∃ z : Int32, f293 10 = z := ⟨_, rfl⟩
            have b336 : Bd v334 (0) (12) := (by rw [← ee335]; exact b295.1 10 (by decide))
            have q337 : elm (S292 7) 10 = v334.toInt := (elm_of c294 10).trans (congrArg Int32.toInt (ee335))
            have q338 : elm (S238 7) 11 = v25.toInt := (elm_of c239 11).trans (congrArg Int32.toInt (ee26))
            obtain ⟨v339, ee340⟩ : ∃ z : Int32, f293 11 = z := ⟨_, rfl⟩
            have b341 : Bd v339 (0) (12) := (by rw [← ee340]; exact b295.2.1 11 (by decide))
            have q342 : elm (S292 7) 11 = v339.toInt := (elm_of c294 11).trans (congrArg Int32.toInt (ee340))
            have q343 : elm (S238 7) 13 = v31.toInt := (elm_of c239 13).trans (congrArg Int32.toInt (ee32))
            obtain ⟨v344, ee345⟩ : ∃ z : Int32, f293 13 = z := ⟨_, rfl⟩
            have b346 : Bd v344 (0) (12) := (by rw [← ee345]; exact b295.2.2.2.1 13 (by decide))
            have q347 : elm (S292 7) 13 = v344.toInt := (elm_of c294 13).trans (congrArg Int32.toInt (ee345))
            have q348 : elm (S238 7) 16 = v34.toInt := (elm_of c239 16).trans (congrArg Int32.toInt (ee35))
            obtain ⟨v349, ee350⟩ : ∃ z : Int32, f293 16 = z := ⟨_, rfl⟩
            have b351 : Bd v349 (0) (8) := (by rw [← ee350]; exact b295.2.2.2.2.1 16 (by decide))
            have q352 : elm (S292 7) 16 = v349.toInt := (elm_of c294 16).trans (congrArg Int32.toInt (ee350))
            have q353 : elm (S238 7) 18 = v37.toInt := (elm_of c239 18).trans (congrArg Int32.toInt (ee38))
            obtain ⟨v354, ee355⟩ : ∃ z : Int32, f293 18 = z := ⟨_, rfl⟩
            have b356 : Bd v354 (0) (3) := (by rw [← ee355]; exact b295.2.2.2.2.2.2.1 18 (by decide))
            have q357 : elm (S292 7) 18 = v354.toInt := (elm_of c294 18).trans (congrArg Int32.toInt (ee355))
            have q358 : elm (S238 7) 19 = v112.toInt := (elm_of c239 19).trans (congrArg Int32.toInt (ee113))
            obtain ⟨v359, ee360⟩ : ∃ z : Int32, f293 19 = z := ⟨_, rfl⟩
            have b361 : Bd v359 (0) (40) := (by rw [← ee360]; exact b295.2.2.2.2.2.2.2 19 (by decide))
            have q362 : elm (S292 7) 19 = v359.toInt := (elm_of c294 19).trans (congrArg Int32.toInt (ee360))
            have q363 : elm (S238 7) 20 = v46.toInt := (elm_of c239 20).trans (congrArg Int32.toInt (ee47))
            obtain ⟨v364, ee365⟩ : ∃ z : Int32, f293 20 = z := ⟨_, rfl⟩
            have b366 : Bd v364 (0) (12) := (by rw [← ee365]; exact b295.1 20 (by decide))
            have q367 : elm (S292 7) 20 = v364.toInt := (elm_of c294 20).trans (congrArg Int32.toInt (ee365))
            have q368 : elm (S238 7) 21 = v43.toInt := (elm_of c239 21).trans (congrArg Int32.toInt (ee44))
            obtain ⟨v369, ee370⟩ : ∃ z : Int32, f293 21 = z := ⟨_, rfl⟩
            have b371 : Bd v369 (0) (12) := (by rw [← ee370]; exact b295.2.1 21 (by decide))
            have q372 : elm (S292 7) 21 = v369.toInt := (elm_of c294 21).trans (congrArg Int32.toInt (ee370))
            have q373 : elm (S238 7) 23 = v49.toInt := (elm_of c239 23).trans (congrArg Int32.toInt (ee50))
            obtain ⟨v374, ee375⟩ : ∃ z : Int32, f293 23 = z := ⟨_, rfl⟩
            have b376 : Bd v374 (0) (12) := (by rw [← ee375]; exact b295.2.2.2.1 23 (by decide))
            have q377 : elm (S292 7) 23 = v374.toInt := (elm_of c294 23).trans (congrArg Int32.toInt (ee375))
            have q378 : elm (S238 7) 26 = v52.toInt := (elm_of c239 26).trans (congrArg Int32.toInt (ee53))
            obtain ⟨v379, ee380⟩ : ∃ z : Int32, f293 26 = z := ⟨_, rfl⟩
            have b381 : Bd v379 (0) (8) := (by rw [← ee380]; exact b295.2.2.2.2.1 26 (by decide))
            have q382 : elm (S292 7) 26 = v379.toInt := (elm_of c294 26).trans (congrArg Int32.toInt (ee380))
            have q383 : elm (S238 7) 28 = v55.toInt := (elm_of c239 28).trans (congrArg Int32.toInt (ee56))
            obtain ⟨v384, ee385⟩ : ∃ z : Int32, f293 28 = z := ⟨_, rfl⟩
            have b386 : Bd v384 (0) (3) := (by rw [← ee385]; exact b295.2.2.2.2.2.2.1 28 (by decide))
            have q387 : elm (S292 7) 28 = v384.toInt := (elm_of c294 28).trans (congrArg Int32.toInt (ee385))
            have q388 : elm (S238 7) 29 = v115.toInt := (elm_of c239 29).trans (congrArg Int32.toInt (ee116))
            obtain ⟨v389, ee390⟩ : ∃ z : Int32, f293 29 = z := ⟨_, rfl⟩
            have b391 : Bd v389 (0) (40) := (by rw [← ee390]; exact b295.2.2.2.2.2.2.2 29 (by decide))
            have q392 : elm (S292 7) 29 = v389.toInt := (elm_of c294 29).trans (congrArg Int32.toInt (ee390))
            have q393 : elm (S238 7) 30 = v64.toInt := (elm_of c239 30).trans (congrArg Int32.toInt (ee65))
            obtain ⟨v394, ee395⟩ : ∃ z : Int32, f293 30 = z := ⟨_, rfl⟩
            have b396 : Bd v394 (0) (12) := (by rw [← ee395]; exact b295.1 30 (by decide))
            have q397 : elm (S292 7) 30 = v394.toInt := (elm_of c294 30).trans (congrArg Int32.toInt (ee395))
            have q398 : elm (S238 7) 31 = v61.toInt := (elm_of c239 31).trans (congrArg Int32.toInt (ee62))
            obtain ⟨v399, ee400⟩ : ∃ z : Int32, f293 31 = z := ⟨_, rfl⟩
            have b401 : Bd v399 (0) (12) := (by rw [← ee400]; exact b295.2.1 31 (by decide))
            have q402 : elm (S292 7) 31 = v399.toInt := (elm_of c294 31).trans (congrArg Int32.toInt (ee400))
            have q403 : elm (S238 7) 33 = v67.toInt := (elm_of c239 33).trans (congrArg Int32.toInt (ee68))
            obtain ⟨v404, ee405⟩ : ∃ z : Int32, f293 33 = z := ⟨_, rfl⟩
            have b406 : Bd v404 (0) (12) := (by rw [← ee405]; exact b295.2.2.2.1 33 (by decide))
            have q407 : elm (S292 7) 33 = v404.toInt := (elm_of c294 33).trans (congrArg Int32.toInt (ee405))
            have q408 : elm (S238 7) 36 = v70.toInt := (elm_of c239 36).trans (congrArg Int32.toInt (ee71))
            obtain ⟨v409, ee410⟩ : ∃ z : Int32, f293 36 = z := ⟨_, rfl⟩
            have b411 : Bd v409 (0) (8) := (by rw [← ee410]; exact b295.2.2.2.2.1 36 (by decide))
            have q412 : elm (S292 7) 36 = v409.toInt := (elm_of c294 36).trans (congrArg Int32.toInt (ee410))
            have q413 : elm (S238 7) 38 = v73.toInt := (elm_of c239 38).trans (congrArg Int32.toInt (ee74))
            obtain ⟨v414, ee415⟩ : ∃ z : Int32, f293 38 = z := ⟨_, rfl⟩
            have b416 : Bd v414 (0) (3) := (by rw [← ee415]; exact b295.2.2.2.2.2.2.1 38 (by decide))
            have q417 : elm (S292 7) 38 = v414.toInt := (elm_of c294 38).trans (congrArg Int32.toInt (ee415))
            have q418 : elm (S238 7) 39 = v118.toInt := (elm_of c239 39).trans (congrArg Int32.toInt (ee119))
            obtain ⟨v419, ee420⟩ : ∃ z : Int32, f293 39 = z := ⟨_, rfl⟩
            have b421 : Bd v419 (0) (40) := (by rw [← ee420]; exact b295.2.2.2.2.2.2.2 39 (by decide))
            have q422 : elm (S292 7) 39 = v419.toInt := (elm_of c294 39).trans (congrArg Int32.toInt (ee420))
            refine lv_iconst (v := 1) hx hb dX12_shove_75 (by decide) ?_
            refine lv_istore (lv' := [(4, .int 1), (0, .ref (ad 0)), (1, .int a1), (2, .int a2), (3, .int a3)]) hx hb dX12_shove_76 hl (by decide) rfl (fun ls hl => ?_)
            refine lv_iconst (v := 0) hx hb dX12_shove_78 (by decide) ?_
            refine lv_istore (lv' := [(5, .int 0), (4, .int 1), (0, .ref (ad 0)), (1, .int a1), (2, .int a2), (3, .int a3)]) hx hb dX12_shove_79 hl (by decide) rfl (fun ls hl => ?_)
            have loop81 : ∀ (n : Nat) (H : Heap) (locs : List Loc) (ls : Array Slot) (x81_4 : Int32) (x81_5 : Int32), Bd x81_5 (0) (401) → (-1) * x81_5.toInt + 401 < ((n : Nat) : Int) → Hp g ad 20 S292 (FA ad 20) s.heap H locs → lv_has ls 6 [(5, .int x81_5), (4, .int x81_4), (0, .ref (ad 0)), (1, .int a1), (2, .int a2), (3, .int a3)] → W p l e (Rm 2) s m [.ref (ad 0), .int a1, .int a2, .int a3].toArray below meth c H locs 0 0 (MQ below (va_Qi (fun _ S' => InvM g ad S' ∧ (∀ j, j ∉ ([0, 7, 12, 14, 15] : List Nat) → S' j = S j) ∧ (0 ≤ 12 * elm (S' 7) 1 + (-1) * elm (S' 7) 0) ∧ (0 ≤ 12 * elm (S' 7) 3 + (-1) * elm (S' 7) 0) ∧ (0 ≤ 8 * elm (S' 7) 0 + (-1) * elm (S' 7) 6) ∧ (0 ≤ 3 * elm (S' 7) 0 + (-1) * elm (S' 7) 8) ∧ (0 ≤ 40000 * elm (S' 7) 0 + (-1) * elm (S' 6) 0) ∧ (0 ≤ 12 * elm (S' 7) 11 + (-1) * elm (S' 7) 10) ∧ (0 ≤ 12 * elm (S' 7) 13 + (-1) * elm (S' 7) 10) ∧ (0 ≤ 8 * elm (S' 7) 10 + (-1) * elm (S' 7) 16) ∧ (0 ≤ 3 * elm (S' 7) 10 + (-1) * elm (S' 7) 18) ∧ (0 ≤ 40000 * elm (S' 7) 10 + (-1) * elm (S' 6) 1) ∧ (0 ≤ 12 * elm (S' 7) 21 + (-1) * elm (S' 7) 20) ∧ (0 ≤ 12 * elm (S' 7) 23 + (-1) * elm (S' 7) 20) ∧ (0 ≤ 8 * elm (S' 7) 20 + (-1) * elm (S' 7) 26) ∧ (0 ≤ 3 * elm (S' 7) 20 + (-1) * elm (S' 7) 28) ∧ (0 ≤ 40000 * elm (S' 7) 20 + (-1) * elm (S' 6) 2) ∧ (0 ≤ 12 * elm (S' 7) 31 + (-1) * elm (S' 7) 30) ∧ (0 ≤ 12 * elm (S' 7) 33 + (-1) * elm (S' 7) 30) ∧ (0 ≤ 8 * elm (S' 7) 30 + (-1) * elm (S' 7) 36) ∧ (0 ≤ 3 * elm (S' 7) 30 + (-1) * elm (S' 7) 38) ∧ (0 ≤ 40000 * elm (S' 7) 30 + (-1) * elm (S' 6) 3) ∧ (0 ≤ elm (S 7) 0 + (-1) * elm (S' 7) 0 ∧ 0 ≤ elm (S' 7) 0 + (-1) * elm (S 7) 0) ∧ (0 ≤ elm (S 7) 6 + (-1) * elm (S' 7) 6 ∧ 0 ≤ elm (S' 7) 6 + (-1) * elm (S 7) 6) ∧ (0 ≤ elm (S 7) 10 + (-1) * elm (S' 7) 10 ∧ 0 ≤ elm (S' 7) 10 + (-1) * elm (S 7) 10) ∧ (0 ≤ elm (S 7) 16 + (-1) * elm (S' 7) 16 ∧ 0 ≤ elm (S' 7) 16 + (-1) * elm (S 7) 16) ∧ (0 ≤ elm (S 7) 20 + (-1) * elm (S' 7) 20 ∧ 0 ≤ elm (S' 7) 20 + (-1) * elm (S 7) 20) ∧ (0 ≤ elm (S 7) 26 + (-1) * elm (S' 7) 26 ∧ 0 ≤ elm (S' 7) 26 + (-1) * elm (S 7) 26) ∧ (0 ≤ elm (S 7) 30 + (-1) * elm (S' 7) 30 ∧ 0 ≤ elm (S' 7) 30 + (-1) * elm (S 7) 30) ∧ (0 ≤ elm (S 7) 36 + (-1) * elm (S' 7) 36 ∧ 0 ≤ elm (S' 7) 36 + (-1) * elm (S 7) 36) ∧ (ATp (S' 7) (S' 12) 0) ∧ (ATp (S' 7) (S' 12) 1) ∧ (ATp (S' 7) (S' 12) 2) ∧ (ATp (S' 7) (S' 12) 3)) (QB g ad 20) (FA ad 20)) [.ref (ad 0), .int a1, .int a2, .int a3].toArray s 0 0 (FA ad 20)) (F0 m 81 ls []) := by
              intro n
              induction n with
              | zero => intro H locs ls x81_4 x81_5 Bx81_5 hn81_ hQ hl; exfalso; have := (Bx81_5).2; omega
              | succ n81_ ih81 =>
                intro H locs ls x81_4 x81_5 Bx81_5 hn81_ hQ hl
                refine lv_iload hx hb dX12_shove_81 (lv_at hl 0 rfl) ?_
                refine lv_sipush (v := 400) hx hb dX12_shove_83 (by decide) ?_
                refine lv_icmp_gt (tgt := 121) hx hb dX12_shove_86 (by decide) (fun k423 => ?_) (fun k423 => ?_)
                · have h424 := ib_lt k423
                  have b425 : Bd x81_5 (401) (401) := ⟨((rf_lt (by decide : Bd 400 (400) (400)) Bx81_5 h424).2).1, (Bx81_5).2⟩
                  refine lv_iload hx hb dX12_shove_121 (lv_at hl 1 rfl) ?_
                  have c426 : S292 6 = .inl (g.2 0, 5, .inl f19) := ((o292 6 (by decide)).trans ((o238 6 (by decide)).trans (up_ne eS150 (by decide) c20)))
                  have q427 : elm (S292 6) 0 = v22.toInt := (elm_of c426 0).trans (congrArg Int32.toInt (ee23))
                  have q428 : elm (S292 6) 1 = v40.toInt := (elm_of c426 1).trans (congrArg Int32.toInt (ee41))
                  have q429 : elm (S292 6) 2 = v58.toInt := (elm_of c426 2).trans (congrArg Int32.toInt (ee59))
                  have q430 : elm (S292 6) 3 = v76.toInt := (elm_of c426 3).trans (congrArg Int32.toInt (ee77))
                  exact xri E hr hlk hQ (⟨hI, (o_trans (o_trans (up_o o_refl eS150 (by decide)) o238 (by decide)) o292 (by decide)), (by omega), (by omega), (by omega), (by omega), (by omega), (by omega), (by omega), (by omega), (by omega), (by omega), (by omega), (by omega), (by omega), (by omega), (by omega), (by omega), (by omega), (by omega), (by omega), (by omega), ⟨by omega, by omega⟩, ⟨by omega, by omega⟩, ⟨by omega, by omega⟩, ⟨by omega, by omega⟩, ⟨by omega, by omega⟩, ⟨by omega, by omega⟩, ⟨by omega, by omega⟩, ⟨by omega, by omega⟩, u292_0, u292_1, u292_2, u292_3⟩) dX12_shove_123
                · have h431 := ib_nlt k423
                  have b432 : Bd x81_5 (0) (400) := ⟨(Bx81_5).1, ((rf_le Bx81_5 (by decide : Bd 400 (400) (400)) h431).1).2⟩
                  refine lv_iload hx hb dX12_shove_89 (lv_at hl 1 rfl) ?_
                  refine lv_aload_n hx hb dX12_shove_91 rfl (lv_at hl 2 rfl) ?_
                  have c433 : S292 0 = .inr (12, [.int 0, .ref (ad 1), .ref (ad 2), .ref (ad 3), .ref (ad 4), .ref (ad 5), .int v122, .int v124, .int v126, .int v128, .int v129, .long w130, .int v131, .int v133, .int v134, .int v135, .ref (ad 6), .ref (ad 7), .ref (ad 8), .ref (ad 9), .ref (ad 10), .ref (ad 11), .ref (ad 12), .ref (ad 13), .ref (ad 14), .ref (ad 15), .int v136, .int v138, .ref (ad 16), .int v140, .int v142, .int v144, .int v146, .int v147, .ref (ad 17), .ref (ad 18), .int v148, .ref (ad 19)]) := ((o292 0 (by decide)).trans c241)
                  refine xget E hQ 0 (by decide) c433 rfl 25 (by decide) q1493 rfl dX12_shove_92 ?_
                  refine lv_sipush (v := 401) hx hb dX12_shove_95 (by decide) ?_
                  refine lv_iload_n hx hb dX12_shove_98 rfl (lv_at hl 3 rfl) ?_
                  refine lv_imul hx hb dX12_shove_99 ?_
                  refine lv_topi (fun z434 e435 => ?_)
                  have t436 := ib_cmul (q := 401) e435 (by decide) (by decide) b185 (by decide) (by decide)
                  have b437 : Bd z434 (0) (2807) := ib_mulb t436 (by decide) b185
                  refine lv_iload hx hb dX12_shove_100 (lv_at hl 0 rfl) ?_
                  refine lv_iadd hx hb dX12_shove_102 ?_
                  refine lv_topi (fun z438 e439 => ?_)
                  have t440 := ib_add e439 b437 b432 (by decide) (by decide)
                  have b441 : Bd z438 (0) (3207) := ib_addb t440 b437 b432
                  have c442 : S292 15 = .inl (g.2 0, 3208, .inl f283) := ((o292 15 (by decide)).trans c284)
                  refine xiald E hQ 15 (by decide) c442 (ib_in b441 (by decide) (by decide)) dX12_shove_103 ?_
                  refine lv_topi (fun z443 e444 => ?_)
                  refine lv_if_eq (tgt := 111) hx hb dX12_shove_104 (by decide) (fun k445 => ?_) (fun k445 => ?_)
                  · have h446 := ib_eq k445
                    have b447 : Bd z443 (0) (0) := ⟨((rf_eq (ib_full z443) (by decide : Bd 0 (0) (0)) h446).1).1, ((rf_eq (ib_full z443) (by decide : Bd 0 (0) (0)) h446).1).2⟩
                    refine lv_iconst (v := 0) hx hb dX12_shove_111 (by decide) ?_
                    refine lv_iadd hx hb dX12_shove_112 ?_
                    refine lv_topi (fun z448 e449 => ?_)
                    have t450 := ib_add e449 (ib_full x81_4) (by decide : Bd 0 (0) (0)) (by decide) (by decide)
                    have b451 : Bd z448 (-2147483648) (2147483647) := ib_addb t450 (ib_full x81_4) (by decide : Bd 0 (0) (0))
                    have t450 : z448.toInt = x81_4.toInt + 0 := fold_add t450 rfl (by decide)
                    refine lv_istore (lv' := [(4, .int z448), (5, .int x81_5), (0, .ref (ad 0)), (1, .int a1), (2, .int a2), (3, .int a3)]) hx hb dX12_shove_113 hl (by decide) rfl (fun ls hl => ?_)
                    obtain ⟨z452, e453⟩ : ∃ z : Int32, z = x81_5 + 1 := ⟨_, rfl⟩
                    have t454 := ib_add e453 b432 (by decide : Bd 1 (1) (1)) (by decide) (by decide)
                    have b455 : Bd z452 (1) (401) := ib_addb t454 b432 (by decide : Bd 1 (1) (1))
                    have t454 : z452.toInt = x81_5.toInt + 1 := fold_add t454 rfl (by decide)
                    refine lv_iinc (v := z452) (lv' := [(5, .int z452), (4, .int z448), (0, .ref (ad 0)), (1, .int a1), (2, .int a2), (3, .int a3)]) hx hb dX12_shove_115 hl (k := 1) rfl (by rw [e453]; rfl) (by decide) rfl (fun ls hl => ?_)
                    refine lv_goto (tgt := 81) hx hb dX12_shove_118 (by decide) ?_
                    exact ih81 _ _ _ z448 z452 (ib_wk b455 (by decide) (by decide)) (by omega) hQ (lv_sub hl [0, 1, 2, 3, 4, 5] rfl)
                  · have h456 := ib_ne k445
                    refine lv_iconst (v := 1) hx hb dX12_shove_107 (by decide) ?_
                    refine lv_goto (tgt := 112) hx hb dX12_shove_108 (by decide) ?_
                    refine lv_iadd hx hb dX12_shove_112 ?_
                    refine lv_topi (fun z457 e458 => ?_)
                    refine lv_istore (lv' := [(4, .int z457), (5, .int x81_5), (0, .ref (ad 0)), (1, .int a1), (2, .int a2), (3, .int a3)]) hx hb dX12_shove_113 hl (by decide) rfl (fun ls hl => ?_)
                    obtain ⟨z459, e460⟩ : ∃ z : Int32, z = x81_5 + 1 := ⟨_, rfl⟩
                    have t461 := ib_add e460 b432 (by decide : Bd 1 (1) (1)) (by decide) (by decide)
                    have b462 : Bd z459 (1) (401) := ib_addb t461 b432 (by decide : Bd 1 (1) (1))
                    have t461 : z459.toInt = x81_5.toInt + 1 := fold_add t461 rfl (by decide)
                    refine lv_iinc (v := z459) (lv' := [(5, .int z459), (4, .int z457), (0, .ref (ad 0)), (1, .int a1), (2, .int a2), (3, .int a3)]) hx hb dX12_shove_115 hl (k := 1) rfl (by rw [e460]; rfl) (by decide) rfl (fun ls hl => ?_)
                    refine lv_goto (tgt := 81) hx hb dX12_shove_118 (by decide) ?_
                    exact ih81 _ _ _ z457 z459 (ib_wk b462 (by decide) (by decide)) (by omega) hQ (lv_sub hl [0, 1, 2, 3, 4, 5] rfl)
            obtain ⟨n81, hn81⟩ := fu_n (401)
            exact loop81 n81 _ _ _ 1 0 (ib_wk (by decide : Bd 0 (0) (0)) (by decide) (by decide)) (by have : (1 : Int32).toInt = 1 := (by decide); have : (0 : Int32).toInt = 0 := (by decide); omega) hQ (lv_sub hl [0, 1, 2, 3, 4, 5] rfl)
          · have h463 := ib_ne k288
            refine lv_bipush (v := (-5)) hx hb dX12_shove_64 (by decide) ?_
            have q464 : elm (S238 7) 1 = v4.toInt := (elm_of c239 1).trans (congrArg Int32.toInt (ee5))
            have q465 : elm (S238 7) 0 = v7.toInt := (elm_of c239 0).trans (congrArg Int32.toInt (ee8))
            have q466 : elm (S238 7) 3 = v10.toInt := (elm_of c239 3).trans (congrArg Int32.toInt (ee11))
            have q467 : elm (S238 7) 6 = v13.toInt := (elm_of c239 6).trans (congrArg Int32.toInt (ee14))
            have q468 : elm (S238 7) 8 = v16.toInt := (elm_of c239 8).trans (congrArg Int32.toInt (ee17))
            have c469 : S238 6 = .inl (g.2 0, 5, .inl f19) := ((o238 6 (by decide)).trans (up_ne eS150 (by decide) c20))
            have q470 : elm (S238 6) 0 = v22.toInt := (elm_of c469 0).trans (congrArg Int32.toInt (ee23))
            have q471 : elm (S238 7) 11 = v25.toInt := (elm_of c239 11).trans (congrArg Int32.toInt (ee26))
            have q472 : elm (S238 7) 10 = v28.toInt := (elm_of c239 10).trans (congrArg Int32.toInt (ee29))
            have q473 : elm (S238 7) 13 = v31.toInt := (elm_of c239 13).trans (congrArg Int32.toInt (ee32))
            have q474 : elm (S238 7) 16 = v34.toInt := (elm_of c239 16).trans (congrArg Int32.toInt (ee35))
            have q475 : elm (S238 7) 18 = v37.toInt := (elm_of c239 18).trans (congrArg Int32.toInt (ee38))
            have q476 : elm (S238 6) 1 = v40.toInt := (elm_of c469 1).trans (congrArg Int32.toInt (ee41))
            have q477 : elm (S238 7) 21 = v43.toInt := (elm_of c239 21).trans (congrArg Int32.toInt (ee44))
            have q478 : elm (S238 7) 20 = v46.toInt := (elm_of c239 20).trans (congrArg Int32.toInt (ee47))
            have q479 : elm (S238 7) 23 = v49.toInt := (elm_of c239 23).trans (congrArg Int32.toInt (ee50))
            have q480 : elm (S238 7) 26 = v52.toInt := (elm_of c239 26).trans (congrArg Int32.toInt (ee53))
            have q481 : elm (S238 7) 28 = v55.toInt := (elm_of c239 28).trans (congrArg Int32.toInt (ee56))
            have q482 : elm (S238 6) 2 = v58.toInt := (elm_of c469 2).trans (congrArg Int32.toInt (ee59))
            have q483 : elm (S238 7) 31 = v61.toInt := (elm_of c239 31).trans (congrArg Int32.toInt (ee62))
            have q484 : elm (S238 7) 30 = v64.toInt := (elm_of c239 30).trans (congrArg Int32.toInt (ee65))
            have q485 : elm (S238 7) 33 = v67.toInt := (elm_of c239 33).trans (congrArg Int32.toInt (ee68))
            have q486 : elm (S238 7) 36 = v70.toInt := (elm_of c239 36).trans (congrArg Int32.toInt (ee71))
            have q487 : elm (S238 7) 38 = v73.toInt := (elm_of c239 38).trans (congrArg Int32.toInt (ee74))
            have q488 : elm (S238 6) 3 = v76.toInt := (elm_of c469 3).trans (congrArg Int32.toInt (ee77))
            exact xri E hr hlk hQ (⟨hI, (o_trans (up_o o_refl eS150 (by decide)) o238 (by decide)), (by omega), (by omega), (by omega), (by omega), (by omega), (by omega), (by omega), (by omega), (by omega), (by omega), (by omega), (by omega), (by omega), (by omega), (by omega), (by omega), (by omega), (by omega), (by omega), (by omega), ⟨by omega, by omega⟩, ⟨by omega, by omega⟩, ⟨by omega, by omega⟩, ⟨by omega, by omega⟩, ⟨by omega, by omega⟩, ⟨by omega, by omega⟩, ⟨by omega, by omega⟩, ⟨by omega, by omega⟩, (at_tr hAT0 ((o238 7 (by decide)).trans (up_eq (j := 7) eS150 (by decide))) ((o238 12 (by decide)).trans (up_eq (j := 12) eS150 (by decide)))), (at_tr hAT1 ((o238 7 (by decide)).trans (up_eq (j := 7) eS150 (by decide))) ((o238 12 (by decide)).trans (up_eq (j := 12) eS150 (by decide)))), (at_tr hAT2 ((o238 7 (by decide)).trans (up_eq (j := 7) eS150 (by decide))) ((o238 12 (by decide)).trans (up_eq (j := 12) eS150 (by decide)))), (at_tr hAT3 ((o238 7 (by decide)).trans (up_eq (j := 7) eS150 (by decide))) ((o238 12 (by decide)).trans (up_eq (j := 12) eS150 (by decide))))⟩) dX12_shove_66
      · have h489 := ib_eq k232
        have b490 : Bd r231 (0) (0) := ⟨(b231).1, ((rf_eq b231 (by decide : Bd 0 (0) (0)) h489).1).2⟩
        clear g231_0
        refine lv_bipush (v := (-2)) hx hb dX12_shove_35 (by decide) ?_
        have q491 : elm (S150 7) 1 = v4.toInt := (elm_of c152 1).trans (congrArg Int32.toInt (ee5))
        have q492 : elm (S150 7) 0 = v7.toInt := (elm_of c152 0).trans (congrArg Int32.toInt (ee8))
        have q493 : elm (S150 7) 3 = v10.toInt := (elm_of c152 3).trans (congrArg Int32.toInt (ee11))
        have q494 : elm (S150 7) 8 = v16.toInt := (elm_of c152 8).trans (congrArg Int32.toInt (ee17))
        have c495 : S150 6 = .inl (g.2 0, 5, .inl f19) := (up_ne eS150 (by decide) c20)
        have q496 : elm (S150 6) 0 = v22.toInt := (elm_of c495 0).trans (congrArg Int32.toInt (ee23))
        have q497 : elm (S150 7) 11 = v25.toInt := (elm_of c152 11).trans (congrArg Int32.toInt (ee26))
        have q498 : elm (S150 7) 10 = v28.toInt := (elm_of c152 10).trans (congrArg Int32.toInt (ee29))
        have q499 : elm (S150 7) 13 = v31.toInt := (elm_of c152 13).trans (congrArg Int32.toInt (ee32))
        have q500 : elm (S150 7) 16 = v34.toInt := (elm_of c152 16).trans (congrArg Int32.toInt (ee35))
        have q501 : elm (S150 7) 18 = v37.toInt := (elm_of c152 18).trans (congrArg Int32.toInt (ee38))
        have q502 : elm (S150 6) 1 = v40.toInt := (elm_of c495 1).trans (congrArg Int32.toInt (ee41))
        have q503 : elm (S150 7) 21 = v43.toInt := (elm_of c152 21).trans (congrArg Int32.toInt (ee44))
        have q504 : elm (S150 7) 20 = v46.toInt := (elm_of c152 20).trans (congrArg Int32.toInt (ee47))
        have q505 : elm (S150 7) 23 = v49.toInt := (elm_of c152 23).trans (congrArg Int32.toInt (ee50))
        have q506 : elm (S150 7) 26 = v52.toInt := (elm_of c152 26).trans (congrArg Int32.toInt (ee53))
        have q507 : elm (S150 7) 28 = v55.toInt := (elm_of c152 28).trans (congrArg Int32.toInt (ee56))
        have q508 : elm (S150 6) 2 = v58.toInt := (elm_of c495 2).trans (congrArg Int32.toInt (ee59))
        have q509 : elm (S150 7) 31 = v61.toInt := (elm_of c152 31).trans (congrArg Int32.toInt (ee62))
        have q510 : elm (S150 7) 30 = v64.toInt := (elm_of c152 30).trans (congrArg Int32.toInt (ee65))
        have q511 : elm (S150 7) 33 = v67.toInt := (elm_of c152 33).trans (congrArg Int32.toInt (ee68))
        have q512 : elm (S150 7) 36 = v70.toInt := (elm_of c152 36).trans (congrArg Int32.toInt (ee71))
        have q513 : elm (S150 7) 38 = v73.toInt := (elm_of c152 38).trans (congrArg Int32.toInt (ee74))
        have q514 : elm (S150 6) 3 = v76.toInt := (elm_of c495 3).trans (congrArg Int32.toInt (ee77))
        exact xri E hr hlk hQ (⟨hI, (up_o o_refl eS150 (by decide)), (by omega), (by omega), (by omega), (by omega), (by omega), (by omega), (by omega), (by omega), (by omega), (by omega), (by omega), (by omega), (by omega), (by omega), (by omega), (by omega), (by omega), (by omega), (by omega), (by omega), ⟨by omega, by omega⟩, ⟨by omega, by omega⟩, ⟨by omega, by omega⟩, ⟨by omega, by omega⟩, ⟨by omega, by omega⟩, ⟨by omega, by omega⟩, ⟨by omega, by omega⟩, ⟨by omega, by omega⟩, (at_tr hAT0 (up_eq (j := 7) eS150 (by decide)) (up_eq (j := 12) eS150 (by decide))), (at_tr hAT1 (up_eq (j := 7) eS150 (by decide)) (up_eq (j := 12) eS150 (by decide))), (at_tr hAT2 (up_eq (j := 7) eS150 (by decide)) (up_eq (j := 12) eS150 (by decide))), (at_tr hAT3 (up_eq (j := 7) eS150 (by decide)) (up_eq (j := 12) eS150 (by decide)))⟩) dX12_shove_37
set_option maxHeartbeats 4000000 in
set_option maxRecDepth 100000 in
theorem gX12_undo_0 (l : Launch) (g : GG) (ad : Nat → Nat) (hD : Dj ad 20) (S : SS) (hI : InvM g ad S) (hq1 : 0 ≤ 12 * elm (S 7) 1 + (-1) * elm (S 7) 0) (hq2 : 0 ≤ 12 * elm (S 7) 3 + (-1) * elm (S 7) 0) (hq3 : 0 ≤ 8 * elm (S 7) 0 + (-1) * elm (S 7) 6) (hq4 : 0 ≤ 3 * elm (S 7) 0 + (-1) * elm (S 7) 8) (hq5 : 0 ≤ 40000 * elm (S 7) 0 + (-1) * elm (S 6) 0) (hq6 : 0 ≤ 12 * elm (S 7) 11 + (-1) * elm (S 7) 10) (hq7 : 0 ≤ 12 * elm (S 7) 13 + (-1) * elm (S 7) 10) (hq8 : 0 ≤ 8 * elm (S 7) 10 + (-1) * elm (S 7) 16) (hq9 : 0 ≤ 3 * elm (S 7) 10 + (-1) * elm (S 7) 18) (hq10 : 0 ≤ 40000 * elm (S 7) 10 + (-1) * elm (S 6) 1) (hq11 : 0 ≤ 12 * elm (S 7) 21 + (-1) * elm (S 7) 20) (hq12 : 0 ≤ 12 * elm (S 7) 23 + (-1) * elm (S 7) 20) (hq13 : 0 ≤ 8 * elm (S 7) 20 + (-1) * elm (S 7) 26) (hq14 : 0 ≤ 3 * elm (S 7) 20 + (-1) * elm (S 7) 28) (hq15 : 0 ≤ 40000 * elm (S 7) 20 + (-1) * elm (S 6) 2) (hq16 : 0 ≤ 12 * elm (S 7) 31 + (-1) * elm (S 7) 30) (hq17 : 0 ≤ 12 * elm (S 7) 33 + (-1) * elm (S 7) 30) (hq18 : 0 ≤ 8 * elm (S 7) 30 + (-1) * elm (S 7) 36) (hq19 : 0 ≤ 3 * elm (S 7) 30 + (-1) * elm (S 7) 38) (hq20 : 0 ≤ 40000 * elm (S 7) 30 + (-1) * elm (S 6) 3) (hq21 : 0 ≤ (-1) * elm (S 7) 9 + 40) (hq22 : 0 ≤ (-1) * elm (S 7) 19 + 40) (hq23 : 0 ≤ (-1) * elm (S 7) 29 + 40) (hq24 : 0 ≤ (-1) * elm (S 7) 39 + 40) (hAT0 : ATp (S 7) (S 12) 0) (hAT1 : ATp (S 7) (S 12) 1) (hAT2 : ATp (S 7) (S 12) 2) (hAT3 : ATp (S 7) (S 12) 3) : Met l yX12_undo (wG (.code yX12_undo cX12_undo 1 (some .int))) (Rm 1) (XPre g ad 20 S [.ref (ad 0)]) (va_Qi (fun r S' => InvM g ad S' ∧ (∀ j, j ∉ ([0, 7] : List Nat) → S' j = S j) ∧ Bd r (-5) (39) ∧ (0 ≤ 12 * elm (S' 7) 1 + (-1) * elm (S' 7) 0) ∧ (0 ≤ 12 * elm (S' 7) 3 + (-1) * elm (S' 7) 0) ∧ (0 ≤ 8 * elm (S' 7) 0 + (-1) * elm (S' 7) 6) ∧ (0 ≤ 3 * elm (S' 7) 0 + (-1) * elm (S' 7) 8) ∧ (0 ≤ 40000 * elm (S' 7) 0 + (-1) * elm (S' 6) 0) ∧ (0 ≤ 12 * elm (S' 7) 11 + (-1) * elm (S' 7) 10) ∧ (0 ≤ 12 * elm (S' 7) 13 + (-1) * elm (S' 7) 10) ∧ (0 ≤ 8 * elm (S' 7) 10 + (-1) * elm (S' 7) 16) ∧ (0 ≤ 3 * elm (S' 7) 10 + (-1) * elm (S' 7) 18) ∧ (0 ≤ 40000 * elm (S' 7) 10 + (-1) * elm (S' 6) 1) ∧ (0 ≤ 12 * elm (S' 7) 21 + (-1) * elm (S' 7) 20) ∧ (0 ≤ 12 * elm (S' 7) 23 + (-1) * elm (S' 7) 20) ∧ (0 ≤ 8 * elm (S' 7) 20 + (-1) * elm (S' 7) 26) ∧ (0 ≤ 3 * elm (S' 7) 20 + (-1) * elm (S' 7) 28) ∧ (0 ≤ 40000 * elm (S' 7) 20 + (-1) * elm (S' 6) 2) ∧ (0 ≤ 12 * elm (S' 7) 31 + (-1) * elm (S' 7) 30) ∧ (0 ≤ 12 * elm (S' 7) 33 + (-1) * elm (S' 7) 30) ∧ (0 ≤ 8 * elm (S' 7) 30 + (-1) * elm (S' 7) 36) ∧ (0 ≤ 3 * elm (S' 7) 30 + (-1) * elm (S' 7) 38) ∧ (0 ≤ 40000 * elm (S' 7) 30 + (-1) * elm (S' 6) 3) ∧ (0 ≤ elm (S 7) 0 + (-1) * elm (S' 7) 0 ∧ 0 ≤ elm (S' 7) 0 + (-1) * elm (S 7) 0) ∧ (0 ≤ elm (S 7) 6 + (-1) * elm (S' 7) 6 ∧ 0 ≤ elm (S' 7) 6 + (-1) * elm (S 7) 6) ∧ (0 ≤ elm (S 7) 10 + (-1) * elm (S' 7) 10 ∧ 0 ≤ elm (S' 7) 10 + (-1) * elm (S 7) 10) ∧ (0 ≤ elm (S 7) 16 + (-1) * elm (S' 7) 16 ∧ 0 ≤ elm (S' 7) 16 + (-1) * elm (S 7) 16) ∧ (0 ≤ elm (S 7) 20 + (-1) * elm (S' 7) 20 ∧ 0 ≤ elm (S' 7) 20 + (-1) * elm (S 7) 20) ∧ (0 ≤ elm (S 7) 26 + (-1) * elm (S' 7) 26 ∧ 0 ≤ elm (S' 7) 26 + (-1) * elm (S 7) 26) ∧ (0 ≤ elm (S 7) 30 + (-1) * elm (S' 7) 30 ∧ 0 ≤ elm (S' 7) 30 + (-1) * elm (S 7) 30) ∧ (0 ≤ elm (S 7) 36 + (-1) * elm (S' 7) 36 ∧ 0 ≤ elm (S' 7) 36 + (-1) * elm (S 7) 36) ∧ (ATp (S' 7) (S' 12) 0) ∧ (ATp (S' 7) (S' 12) 1) ∧ (ATp (S' 7) (S' 12) 2) ∧ (ATp (S' 7) (S' 12) 3)) (QB g ad 20) (FA ad 20)) 0 0 (FA ad 20) := by
  refine xmet cX12_undo "EbbWreckModel" (by decide) rfl (Nat.le_of_ble_eq_true rfl) (fun p e s m below meth c E hr hlk hml hQ ls hl => ?_)
  have hx := E.1
  have hb := E.2.1
  have hs : Sp ad 20 (FA ad 20) := Sp.fa hD
  have hl : lv_has ls 1 [(0, .ref (ad 0))] := hl
  obtain ⟨f1, c2, b3⟩ := invM_7 hI
  obtain ⟨v4, ee5⟩ : ∃ z : Int32, f1 1 = z := ⟨_, rfl⟩
  have b6 : Bd v4 (0) (12) := (by rw [← ee5]; exact b3.2.1 1 (by decide))
  obtain ⟨v7, ee8⟩ : ∃ z : Int32, f1 0 = z := ⟨_, rfl⟩
  have b9 : Bd v7 (0) (12) := (by rw [← ee8]; exact b3.1 0 (by decide))
  obtain ⟨v10, ee11⟩ : ∃ z : Int32, f1 3 = z := ⟨_, rfl⟩
  have b12 : Bd v10 (0) (12) := (by rw [← ee11]; exact b3.2.2.2.1 3 (by decide))
  obtain ⟨v13, ee14⟩ : ∃ z : Int32, f1 6 = z := ⟨_, rfl⟩
  have b15 : Bd v13 (0) (8) := (by rw [← ee14]; exact b3.2.2.2.2.1 6 (by decide))
  obtain ⟨v16, ee17⟩ : ∃ z : Int32, f1 8 = z := ⟨_, rfl⟩
  have b18 : Bd v16 (0) (3) := (by rw [← ee17]; exact b3.2.2.2.2.2.2.1 8 (by decide))
  obtain ⟨f19, c20, b21⟩ := invM_6 hI
  obtain ⟨v22, ee23⟩ : ∃ z : Int32, f19 0 = z := ⟨_, rfl⟩
  have b24 : Bd v22 (0) (40000) := (by rw [← ee23]; exact b21 0)
  obtain ⟨v25, ee26⟩ : ∃ z : Int32, f1 11 = z := ⟨_, rfl⟩
  have b27 : Bd v25 (0) (12) := (by rw [← ee26]; exact b3.2.1 11 (by decide))
  obtain ⟨v28, ee29⟩ : ∃ z : Int32, f1 10 = z := ⟨_, rfl⟩
  have b30 : Bd v28 (0) (12) := (by rw [← ee29]; exact b3.1 10 (by decide))
  obtain ⟨v31, ee32⟩ : ∃ z : Int32, f1 13 = z := ⟨_, rfl⟩
  have b33 : Bd v31 (0) (12) := (by rw [← ee32]; exact b3.2.2.2.1 13 (by decide))
  obtain ⟨v34, ee35⟩ : ∃ z : Int32, f1 16 = z := ⟨_, rfl⟩
  have b36 : Bd v34 (0) (8) := (by rw [← ee35]; exact b3.2.2.2.2.1 16 (by decide))
  obtain ⟨v37, ee38⟩ : ∃ z : Int32, f1 18 = z := ⟨_, rfl⟩
  have b39 : Bd v37 (0) (3) := (by rw [← ee38]; exact b3.2.2.2.2.2.2.1 18 (by decide))
  obtain ⟨v40, ee41⟩ : ∃ z : Int32, f19 1 = z := ⟨_, rfl⟩
  have b42 : Bd v40 (0) (40000) := (by rw [← ee41]; exact b21 1)
  obtain ⟨v43, ee44⟩ : ∃ z : Int32, f1 21 = z := ⟨_, rfl⟩
  have b45 : Bd v43 (0) (12) := (by rw [← ee44]; exact b3.2.1 21 (by decide))
  obtain ⟨v46, ee47⟩ : ∃ z : Int32, f1 20 = z := ⟨_, rfl⟩
  have b48 : Bd v46 (0) (12) := (by rw [← ee47]; exact b3.1 20 (by decide))
  obtain ⟨v49, ee50⟩ : ∃ z : Int32, f1 23 = z := ⟨_, rfl⟩
  have b51 : Bd v49 (0) (12) := (by rw [← ee50]; exact b3.2.2.2.1 23 (by decide))
  obtain ⟨v52, ee53⟩ : ∃ z : Int32, f1 26 = z := ⟨_, rfl⟩
  have b54 : Bd v52 (0) (8) := (by rw [← ee53]; exact b3.2.2.2.2.1 26 (by decide))
  obtain ⟨v55, ee56⟩ : ∃ z : Int32, f1 28 = z := ⟨_, rfl⟩
  have b57 : Bd v55 (0) (3) := (by rw [← ee56]; exact b3.2.2.2.2.2.2.1 28 (by decide))
  obtain ⟨v58, ee59⟩ : ∃ z : Int32, f19 2 = z := ⟨_, rfl⟩
  have b60 : Bd v58 (0) (40000) := (by rw [← ee59]; exact b21 2)
  obtain ⟨v61, ee62⟩ : ∃ z : Int32, f1 31 = z := ⟨_, rfl⟩
  have b63 : Bd v61 (0) (12) := (by rw [← ee62]; exact b3.2.1 31 (by decide))
  obtain ⟨v64, ee65⟩ : ∃ z : Int32, f1 30 = z := ⟨_, rfl⟩
  have b66 : Bd v64 (0) (12) := (by rw [← ee65]; exact b3.1 30 (by decide))
  obtain ⟨v67, ee68⟩ : ∃ z : Int32, f1 33 = z := ⟨_, rfl⟩
  have b69 : Bd v67 (0) (12) := (by rw [← ee68]; exact b3.2.2.2.1 33 (by decide))
  obtain ⟨v70, ee71⟩ : ∃ z : Int32, f1 36 = z := ⟨_, rfl⟩
  have b72 : Bd v70 (0) (8) := (by rw [← ee71]; exact b3.2.2.2.2.1 36 (by decide))
  obtain ⟨v73, ee74⟩ : ∃ z : Int32, f1 38 = z := ⟨_, rfl⟩
  have b75 : Bd v73 (0) (3) := (by rw [← ee74]; exact b3.2.2.2.2.2.2.1 38 (by decide))
  obtain ⟨v76, ee77⟩ : ∃ z : Int32, f19 3 = z := ⟨_, rfl⟩
  have b78 : Bd v76 (0) (40000) := (by rw [← ee77]; exact b21 3)
  obtain ⟨v79, ee80⟩ : ∃ z : Int32, f1 9 = z := ⟨_, rfl⟩
  have b81 : Bd v79 (0) (40) := (by rw [← ee80]; exact b3.2.2.2.2.2.2.2 9 (by decide))
  obtain ⟨v82, ee83⟩ : ∃ z : Int32, f1 19 = z := ⟨_, rfl⟩
  have b84 : Bd v82 (0) (40) := (by rw [← ee83]; exact b3.2.2.2.2.2.2.2 19 (by decide))
  obtain ⟨v85, ee86⟩ : ∃ z : Int32, f1 29 = z := ⟨_, rfl⟩
  have b87 : Bd v85 (0) (40) := (by rw [← ee86]; exact b3.2.2.2.2.2.2.2 29 (by decide))
  obtain ⟨v88, ee89⟩ : ∃ z : Int32, f1 39 = z := ⟨_, rfl⟩
  have b90 : Bd v88 (0) (40) := (by rw [← ee89]; exact b3.2.2.2.2.2.2.2 39 (by decide))
  have q91 : elm (S 7) 1 = v4.toInt := (elm_of c2 1).trans (congrArg Int32.toInt (ee5))
  have q92 : elm (S 7) 0 = v7.toInt := (elm_of c2 0).trans (congrArg Int32.toInt (ee8))
  have q93 : elm (S 7) 3 = v10.toInt := (elm_of c2 3).trans (congrArg Int32.toInt (ee11))
  have q94 : elm (S 7) 6 = v13.toInt := (elm_of c2 6).trans (congrArg Int32.toInt (ee14))
  have q95 : elm (S 7) 8 = v16.toInt := (elm_of c2 8).trans (congrArg Int32.toInt (ee17))
  have q96 : elm (S 6) 0 = v22.toInt := (elm_of c20 0).trans (congrArg Int32.toInt (ee23))
  have q97 : elm (S 7) 11 = v25.toInt := (elm_of c2 11).trans (congrArg Int32.toInt (ee26))
  have q98 : elm (S 7) 10 = v28.toInt := (elm_of c2 10).trans (congrArg Int32.toInt (ee29))
  have q99 : elm (S 7) 13 = v31.toInt := (elm_of c2 13).trans (congrArg Int32.toInt (ee32))
  have q100 : elm (S 7) 16 = v34.toInt := (elm_of c2 16).trans (congrArg Int32.toInt (ee35))
  have q101 : elm (S 7) 18 = v37.toInt := (elm_of c2 18).trans (congrArg Int32.toInt (ee38))
  have q102 : elm (S 6) 1 = v40.toInt := (elm_of c20 1).trans (congrArg Int32.toInt (ee41))
  have q103 : elm (S 7) 21 = v43.toInt := (elm_of c2 21).trans (congrArg Int32.toInt (ee44))
  have q104 : elm (S 7) 20 = v46.toInt := (elm_of c2 20).trans (congrArg Int32.toInt (ee47))
  have q105 : elm (S 7) 23 = v49.toInt := (elm_of c2 23).trans (congrArg Int32.toInt (ee50))
  have q106 : elm (S 7) 26 = v52.toInt := (elm_of c2 26).trans (congrArg Int32.toInt (ee53))
  have q107 : elm (S 7) 28 = v55.toInt := (elm_of c2 28).trans (congrArg Int32.toInt (ee56))
  have q108 : elm (S 6) 2 = v58.toInt := (elm_of c20 2).trans (congrArg Int32.toInt (ee59))
  have q109 : elm (S 7) 31 = v61.toInt := (elm_of c2 31).trans (congrArg Int32.toInt (ee62))
  have q110 : elm (S 7) 30 = v64.toInt := (elm_of c2 30).trans (congrArg Int32.toInt (ee65))
  have q111 : elm (S 7) 33 = v67.toInt := (elm_of c2 33).trans (congrArg Int32.toInt (ee68))
  have q112 : elm (S 7) 36 = v70.toInt := (elm_of c2 36).trans (congrArg Int32.toInt (ee71))
  have q113 : elm (S 7) 38 = v73.toInt := (elm_of c2 38).trans (congrArg Int32.toInt (ee74))
  have q114 : elm (S 6) 3 = v76.toInt := (elm_of c20 3).trans (congrArg Int32.toInt (ee77))
  have q115 : elm (S 7) 9 = v79.toInt := (elm_of c2 9).trans (congrArg Int32.toInt (ee80))
  have q116 : elm (S 7) 19 = v82.toInt := (elm_of c2 19).trans (congrArg Int32.toInt (ee83))
  have q117 : elm (S 7) 29 = v85.toInt := (elm_of c2 29).trans (congrArg Int32.toInt (ee86))
  have q118 : elm (S 7) 39 = v88.toInt := (elm_of c2 39).trans (congrArg Int32.toInt (ee89))
  obtain ⟨f119, c120, b121⟩ := invM_12 hI
  obtain ⟨f122, c123, b124⟩ := invM_9 hI
  refine lv_aload_n hx hb dX12_undo_0 rfl (lv_at hl 0 rfl) ?_
  refine lv_iconst (v := 0) hx hb dX12_undo_1 (by decide) ?_
  obtain ⟨v125, v126, v128, v130, v132, v133, w134, v135, v137, v138, v139, v140, v142, v144, v146, v148, v150, v151, v152, c153, b127, b129, b131, b136, b141, b143, b145, b147, b149⟩ := invM_0 hI
  have c153 : S 0 = .inr (12, [.int v125, .ref (ad 1), .ref (ad 2), .ref (ad 3), .ref (ad 4), .ref (ad 5), .int v126, .int v128, .int v130, .int v132, .int v133, .long w134, .int v135, .int v137, .int v138, .int v139, .ref (ad 6), .ref (ad 7), .ref (ad 8), .ref (ad 9), .ref (ad 10), .ref (ad 11), .ref (ad 12), .ref (ad 13), .ref (ad 14), .ref (ad 15), .int v140, .int v142, .ref (ad 16), .int v144, .int v146, .int v148, .int v150, .int v151, .ref (ad 17), .ref (ad 18), .int v152, .ref (ad 19)]) := c153
  refine xputi E hs hQ 0 (by decide) c153 rfl 0 (by decide) q1468 rfl rfl (Nat.le_of_ble_eq_true rfl) dX12_undo_2 (fun H locs S154 eS154 hQ => ?_)
  have hI := invM_up_0 hI eS154 ⟨0, v126, v128, v130, v132, v133, w134, v135, v137, v138, v139, v140, v142, v144, v146, v148, v150, v151, v152, rfl, b127, b129, b131, b136, b141, b143, b145, b147, b149⟩
  have c155 : S154 0 = .inr (12, [.int 0, .ref (ad 1), .ref (ad 2), .ref (ad 3), .ref (ad 4), .ref (ad 5), .int v126, .int v128, .int v130, .int v132, .int v133, .long w134, .int v135, .int v137, .int v138, .int v139, .ref (ad 6), .ref (ad 7), .ref (ad 8), .ref (ad 9), .ref (ad 10), .ref (ad 11), .ref (ad 12), .ref (ad 13), .ref (ad 14), .ref (ad 15), .int v140, .int v142, .ref (ad 16), .int v144, .int v146, .int v148, .int v150, .int v151, .ref (ad 17), .ref (ad 18), .int v152, .ref (ad 19)]) := up_at eS154 rfl
  refine lv_aload_n hx hb dX12_undo_5 rfl (lv_at hl 0 rfl) ?_
  have c156 : S154 6 = .inl (g.2 0, 5, .inl f19) := (up_ne eS154 (by decide) c20)
  refine xcVi E hs hQ hml hl.1 0 (gX12_isShore_0 l g ad hD S154 hI ) mX12_isShore q1782 (by decide) c155 rfl rfl ⟨(Nat.le_of_ble_eq_true rfl), (Nat.le_of_ble_eq_true rfl)⟩ ⟨(Nat.le_of_ble_eq_true rfl), (Nat.le_of_ble_eq_true rfl)⟩ (Nat.le_of_ble_eq_true rfl) rfl dX12_undo_6 (fun r157 S157 H locs hp157 hQ _ => ?_)
  obtain ⟨rfl, b157, g157_0⟩ := hp157
  have q158 : elm (S154 6) 0 = v22.toInt := (elm_of c156 0).trans (congrArg Int32.toInt (ee23))
  refine lv_if_ne (tgt := 15) hx hb dX12_undo_9 (by decide) (fun k159 => ?_) (fun k159 => ?_)
  · have h160 := ib_ne k159
    have b161 : Bd r157 (1) (1) := rf_nlo b157 (by decide : Bd 0 (0) (0)) h160
    have g162 := g157_0.resolve_left (by omega)
    clear g157_0
    have b163 : Bd v22 (1) (40000) := ⟨by omega, (b24).2⟩
    refine lv_aload_n hx hb dX12_undo_15 rfl (lv_at hl 0 rfl) ?_
    refine xget E hQ 0 (by decide) c155 rfl 17 (by decide) q1485 rfl dX12_undo_16 ?_
    refine lv_bipush (v := 9) hx hb dX12_undo_19 (by decide) ?_
    have c164 : S154 7 = .inl (g.2 0, 50, .inl f1) := (up_ne eS154 (by decide) c2)
    refine xiald E hQ 7 (by decide) c164 (vp_in_lit 9 50 (by decide)) dX12_undo_21 ?_
    refine sb_at (P := fun z => W _ _ _ _ _ _ _ _ _ _ _ _ _ _ _ (F0 _ _ _ (.int z :: _))) (show f1 (9 : Int32).toNatClampNeg = v79 from ee80) ?_
    refine lv_if_ne (tgt := 28) hx hb dX12_undo_22 (by decide) (fun k165 => ?_) (fun k165 => ?_)
    · have h166 := ib_ne k165
      have b167 : Bd v79 (1) (40) := rf_nlo b81 (by decide : Bd 0 (0) (0)) h166
      refine lv_aload_n hx hb dX12_undo_28 rfl (lv_at hl 0 rfl) ?_
      refine xget E hQ 0 (by decide) c155 rfl 17 (by decide) q1485 rfl dX12_undo_29 ?_
      refine lv_bipush (v := 9) hx hb dX12_undo_32 (by decide) ?_
      refine lv_dup2_11 hx hb dX12_undo_34 rfl rfl ?_
      refine xiald E hQ 7 (by decide) c164 (vp_in_lit 9 50 (by decide)) dX12_undo_35 ?_
      refine sb_at (P := fun z => W _ _ _ _ _ _ _ _ _ _ _ _ _ _ _ (F0 _ _ _ (.int z :: _))) (show f1 (9 : Int32).toNatClampNeg = v79 from ee80) ?_
      refine lv_iconst (v := 1) hx hb dX12_undo_36 (by decide) ?_
      refine lv_isub hx hb dX12_undo_37 ?_
      refine lv_topi (fun z168 e169 => ?_)
      have t170 := ib_sub e169 b167 (by decide : Bd 1 (1) (1)) (by decide) (by decide)
      have b171 : Bd z168 (0) (39) := ib_subb t170 b167 (by decide : Bd 1 (1) (1))
      have t170 : z168.toInt = v79.toInt - 1 := fold_sub t170 rfl (by decide)
      refine xiast E hs hQ 7 (by decide) c164 (vp_in_lit 9 50 (by decide)) dX12_undo_38 (fun H locs S172 eS172 hQ => ?_)
      have hI := invM_up_7 hI eS172 ⟨_, rfl, ⟨upd_mn b3.1 (by decide), upd_mn b3.2.1 (by decide), upd_mn b3.2.2.1 (by decide), upd_mn b3.2.2.2.1 (by decide), upd_mn b3.2.2.2.2.1 (by decide), upd_mn b3.2.2.2.2.2.1 (by decide), upd_mn b3.2.2.2.2.2.2.1 (by decide), upd_m b3.2.2.2.2.2.2.2 (ib_wk b171 (by decide) (by decide))⟩⟩
      have b174 : (∀ j, j % 10 = 0 → Bd ((upd f1 (9 : Int32).toNatClampNeg z168) j) (0) (12)) ∧ (∀ j, j % 10 = 1 → Bd ((upd f1 (9 : Int32).toNatClampNeg z168) j) (0) (12)) ∧ (∀ j, j % 10 = 2 → Bd ((upd f1 (9 : Int32).toNatClampNeg z168) j) (0) (6)) ∧ (∀ j, j % 10 = 3 → Bd ((upd f1 (9 : Int32).toNatClampNeg z168) j) (0) (12)) ∧ (∀ j, j % 10 = 6 → Bd ((upd f1 (9 : Int32).toNatClampNeg z168) j) (0) (8)) ∧ (∀ j, j % 10 = 7 → Bd ((upd f1 (9 : Int32).toNatClampNeg z168) j) (0) (6)) ∧ (∀ j, j % 10 = 8 → Bd ((upd f1 (9 : Int32).toNatClampNeg z168) j) (0) (3)) ∧ (∀ j, j % 10 = 9 → Bd ((upd f1 (9 : Int32).toNatClampNeg z168) j) (0) (40)) := ⟨upd_mn b3.1 (by decide), upd_mn b3.2.1 (by decide), upd_mn b3.2.2.1 (by decide), upd_mn b3.2.2.2.1 (by decide), upd_mn b3.2.2.2.2.1 (by decide), upd_mn b3.2.2.2.2.2.1 (by decide), upd_mn b3.2.2.2.2.2.2.1 (by decide), upd_m b3.2.2.2.2.2.2.2 (ib_wk b171 (by decide) (by decide))⟩
      have c173 : S172 7 = .inl (g.2 0, 50, .inl (upd f1 (9 : Int32).toNatClampNeg z168)) := up_at eS172 rfl
      refine lv_aload_n hx hb dX12_undo_39 rfl (lv_at hl 0 rfl) ?_
      have c175 : S172 0 = .inr (12, [.int 0, .ref (ad 1), .ref (ad 2), .ref (ad 3), .ref (ad 4), .ref (ad 5), .int v126, .int v128, .int v130, .int v132, .int v133, .long w134, .int v135, .int v137, .int v138, .int v139, .ref (ad 6), .ref (ad 7), .ref (ad 8), .ref (ad 9), .ref (ad 10), .ref (ad 11), .ref (ad 12), .ref (ad 13), .ref (ad 14), .ref (ad 15), .int v140, .int v142, .ref (ad 16), .int v144, .int v146, .int v148, .int v150, .int v151, .ref (ad 17), .ref (ad 18), .int v152, .ref (ad 19)]) := (up_ne eS172 (by decide) c155)
      refine xget E hQ 0 (by decide) c175 rfl 17 (by decide) q1485 rfl dX12_undo_40 ?_
      refine lv_bipush (v := 9) hx hb dX12_undo_43 (by decide) ?_
      refine xiald E hQ 7 (by decide) c173 (vp_in_lit 9 50 (by decide)) dX12_undo_45 ?_
      refine sb_at (P := fun z => W _ _ _ _ _ _ _ _ _ _ _ _ _ _ _ (F0 _ _ _ (.int z :: _))) (show (upd f1 (9 : Int32).toNatClampNeg z168) (9 : Int32).toNatClampNeg = z168 from (upd_s)) ?_
      have q176 : elm (S172 7) 1 = v4.toInt := (elm_of c173 1).trans (congrArg Int32.toInt (((upd_o (by decide)).trans (ee5))))
      have q177 : elm (S172 7) 0 = v7.toInt := (elm_of c173 0).trans (congrArg Int32.toInt (((upd_o (by decide)).trans (ee8))))
      have q178 : elm (S172 7) 3 = v10.toInt := (elm_of c173 3).trans (congrArg Int32.toInt (((upd_o (by decide)).trans (ee11))))
      have q179 : elm (S172 7) 6 = v13.toInt := (elm_of c173 6).trans (congrArg Int32.toInt (((upd_o (by decide)).trans (ee14))))
      have q180 : elm (S172 7) 8 = v16.toInt := (elm_of c173 8).trans (congrArg Int32.toInt (((upd_o (by decide)).trans (ee17))))
      have c181 : S172 6 = .inl (g.2 0, 5, .inl f19) := (up_ne eS172 (by decide) c156)
      have q182 : elm (S172 6) 0 = v22.toInt := (elm_of c181 0).trans (congrArg Int32.toInt (ee23))
      have q183 : elm (S172 7) 11 = v25.toInt := (elm_of c173 11).trans (congrArg Int32.toInt (((upd_o (by decide)).trans (ee26))))
      have q184 : elm (S172 7) 10 = v28.toInt := (elm_of c173 10).trans (congrArg Int32.toInt (((upd_o (by decide)).trans (ee29))))
      have q185 : elm (S172 7) 13 = v31.toInt := (elm_of c173 13).trans (congrArg Int32.toInt (((upd_o (by decide)).trans (ee32))))
      have q186 : elm (S172 7) 16 = v34.toInt := (elm_of c173 16).trans (congrArg Int32.toInt (((upd_o (by decide)).trans (ee35))))
      have q187 : elm (S172 7) 18 = v37.toInt := (elm_of c173 18).trans (congrArg Int32.toInt (((upd_o (by decide)).trans (ee38))))
      have q188 : elm (S172 6) 1 = v40.toInt := (elm_of c181 1).trans (congrArg Int32.toInt (ee41))
      have q189 : elm (S172 7) 21 = v43.toInt := (elm_of c173 21).trans (congrArg Int32.toInt (((upd_o (by decide)).trans (ee44))))
      have q190 : elm (S172 7) 20 = v46.toInt := (elm_of c173 20).trans (congrArg Int32.toInt (((upd_o (by decide)).trans (ee47))))
      have q191 : elm (S172 7) 23 = v49.toInt := (elm_of c173 23).trans (congrArg Int32.toInt (((upd_o (by decide)).trans (ee50))))
      have q192 : elm (S172 7) 26 = v52.toInt := (elm_of c173 26).trans (congrArg Int32.toInt (((upd_o (by decide)).trans (ee53))))
      have q193 : elm (S172 7) 28 = v55.toInt := (elm_of c173 28).trans (congrArg Int32.toInt (((upd_o (by decide)).trans (ee56))))
      have q194 : elm (S172 6) 2 = v58.toInt := (elm_of c181 2).trans (congrArg Int32.toInt (ee59))
      have q195 : elm (S172 7) 31 = v61.toInt := (elm_of c173 31).trans (congrArg Int32.toInt (((upd_o (by decide)).trans (ee62))))
      have q196 : elm (S172 7) 30 = v64.toInt := (elm_of c173 30).trans (congrArg Int32.toInt (((upd_o (by decide)).trans (ee65))))
      have q197 : elm (S172 7) 33 = v67.toInt := (elm_of c173 33).trans (congrArg Int32.toInt (((upd_o (by decide)).trans (ee68))))
      have q198 : elm (S172 7) 36 = v70.toInt := (elm_of c173 36).trans (congrArg Int32.toInt (((upd_o (by decide)).trans (ee71))))
      have q199 : elm (S172 7) 38 = v73.toInt := (elm_of c173 38).trans (congrArg Int32.toInt (((upd_o (by decide)).trans (ee74))))
      have q200 : elm (S172 6) 3 = v76.toInt := (elm_of c181 3).trans (congrArg Int32.toInt (ee77))
      have q201 : elm (S172 7) 9 = z168.toInt := (elm_of c173 9).trans (congrArg Int32.toInt ((upd_s)))
      have q202 : elm (S172 7) 19 = v82.toInt := (elm_of c173 19).trans (congrArg Int32.toInt (((upd_o (by decide)).trans (ee83))))
      have q203 : elm (S172 7) 29 = v85.toInt := (elm_of c173 29).trans (congrArg Int32.toInt (((upd_o (by decide)).trans (ee86))))
      have q204 : elm (S172 7) 39 = v88.toInt := (elm_of c173 39).trans (congrArg Int32.toInt (((upd_o (by decide)).trans (ee89))))
      exact xri E hr hlk hQ (⟨hI, (up_o (up_o o_refl eS154 (by decide)) eS172 (by decide)), (ib_wk b171 (by decide) (by decide)), (by omega), (by omega), (by omega), (by omega), (by omega), (by omega), (by omega), (by omega), (by omega), (by omega), (by omega), (by omega), (by omega), (by omega), (by omega), (by omega), (by omega), (by omega), (by omega), (by omega), ⟨by omega, by omega⟩, ⟨by omega, by omega⟩, ⟨by omega, by omega⟩, ⟨by omega, by omega⟩, ⟨by omega, by omega⟩, ⟨by omega, by omega⟩, ⟨by omega, by omega⟩, ⟨by omega, by omega⟩, (at_mono hAT0 (by show elm _ 9 ≤ elm _ 9; omega) ((up_eq (j := 12) eS172 (by decide)).trans (up_eq (j := 12) eS154 (by decide)))), (at_mono hAT1 (by show elm _ 19 ≤ elm _ 19; omega) ((up_eq (j := 12) eS172 (by decide)).trans (up_eq (j := 12) eS154 (by decide)))), (at_mono hAT2 (by show elm _ 29 ≤ elm _ 29; omega) ((up_eq (j := 12) eS172 (by decide)).trans (up_eq (j := 12) eS154 (by decide)))), (at_mono hAT3 (by show elm _ 39 ≤ elm _ 39; omega) ((up_eq (j := 12) eS172 (by decide)).trans (up_eq (j := 12) eS154 (by decide))))⟩) dX12_undo_46
    · have h205 := ib_eq k165
      have b206 : Bd v79 (0) (0) := ⟨(b81).1, ((rf_eq b81 (by decide : Bd 0 (0) (0)) h205).1).2⟩
      refine lv_bipush (v := (-5)) hx hb dX12_undo_25 (by decide) ?_
      have q207 : elm (S154 7) 1 = v4.toInt := (elm_of c164 1).trans (congrArg Int32.toInt (ee5))
      have q208 : elm (S154 7) 0 = v7.toInt := (elm_of c164 0).trans (congrArg Int32.toInt (ee8))
      have q209 : elm (S154 7) 3 = v10.toInt := (elm_of c164 3).trans (congrArg Int32.toInt (ee11))
      have q210 : elm (S154 7) 6 = v13.toInt := (elm_of c164 6).trans (congrArg Int32.toInt (ee14))
      have q211 : elm (S154 7) 8 = v16.toInt := (elm_of c164 8).trans (congrArg Int32.toInt (ee17))
      have q212 : elm (S154 7) 11 = v25.toInt := (elm_of c164 11).trans (congrArg Int32.toInt (ee26))
      have q213 : elm (S154 7) 10 = v28.toInt := (elm_of c164 10).trans (congrArg Int32.toInt (ee29))
      have q214 : elm (S154 7) 13 = v31.toInt := (elm_of c164 13).trans (congrArg Int32.toInt (ee32))
      have q215 : elm (S154 7) 16 = v34.toInt := (elm_of c164 16).trans (congrArg Int32.toInt (ee35))
      have q216 : elm (S154 7) 18 = v37.toInt := (elm_of c164 18).trans (congrArg Int32.toInt (ee38))
      have q217 : elm (S154 6) 1 = v40.toInt := (elm_of c156 1).trans (congrArg Int32.toInt (ee41))
      have q218 : elm (S154 7) 21 = v43.toInt := (elm_of c164 21).trans (congrArg Int32.toInt (ee44))
      have q219 : elm (S154 7) 20 = v46.toInt := (elm_of c164 20).trans (congrArg Int32.toInt (ee47))
      have q220 : elm (S154 7) 23 = v49.toInt := (elm_of c164 23).trans (congrArg Int32.toInt (ee50))
      have q221 : elm (S154 7) 26 = v52.toInt := (elm_of c164 26).trans (congrArg Int32.toInt (ee53))
      have q222 : elm (S154 7) 28 = v55.toInt := (elm_of c164 28).trans (congrArg Int32.toInt (ee56))
      have q223 : elm (S154 6) 2 = v58.toInt := (elm_of c156 2).trans (congrArg Int32.toInt (ee59))
      have q224 : elm (S154 7) 31 = v61.toInt := (elm_of c164 31).trans (congrArg Int32.toInt (ee62))
      have q225 : elm (S154 7) 30 = v64.toInt := (elm_of c164 30).trans (congrArg Int32.toInt (ee65))
      have q226 : elm (S154 7) 33 = v67.toInt := (elm_of c164 33).trans (congrArg Int32.toInt (ee68))
      have q227 : elm (S154 7) 36 = v70.toInt := (elm_of c164 36).trans (congrArg Int32.toInt (ee71))
      have q228 : elm (S154 7) 38 = v73.toInt := (elm_of c164 38).trans (congrArg Int32.toInt (ee74))
      have q229 : elm (S154 6) 3 = v76.toInt := (elm_of c156 3).trans (congrArg Int32.toInt (ee77))
      exact xri E hr hlk hQ (⟨hI, (up_o o_refl eS154 (by decide)), (ib_wk (by decide : Bd (-5) (-5) (-5)) (by decide) (by decide)), (by omega), (by omega), (by omega), (by omega), (by omega), (by omega), (by omega), (by omega), (by omega), (by omega), (by omega), (by omega), (by omega), (by omega), (by omega), (by omega), (by omega), (by omega), (by omega), (by omega), ⟨by omega, by omega⟩, ⟨by omega, by omega⟩, ⟨by omega, by omega⟩, ⟨by omega, by omega⟩, ⟨by omega, by omega⟩, ⟨by omega, by omega⟩, ⟨by omega, by omega⟩, ⟨by omega, by omega⟩, (at_tr hAT0 (up_eq (j := 7) eS154 (by decide)) (up_eq (j := 12) eS154 (by decide))), (at_tr hAT1 (up_eq (j := 7) eS154 (by decide)) (up_eq (j := 12) eS154 (by decide))), (at_tr hAT2 (up_eq (j := 7) eS154 (by decide)) (up_eq (j := 12) eS154 (by decide))), (at_tr hAT3 (up_eq (j := 7) eS154 (by decide)) (up_eq (j := 12) eS154 (by decide)))⟩) dX12_undo_27
  · have h230 := ib_eq k159
    have b231 : Bd r157 (0) (0) := ⟨(b157).1, ((rf_eq b157 (by decide : Bd 0 (0) (0)) h230).1).2⟩
    clear g157_0
    refine lv_bipush (v := (-2)) hx hb dX12_undo_12 (by decide) ?_
    have c232 : S154 7 = .inl (g.2 0, 50, .inl f1) := (up_ne eS154 (by decide) c2)
    have q233 : elm (S154 7) 1 = v4.toInt := (elm_of c232 1).trans (congrArg Int32.toInt (ee5))
    have q234 : elm (S154 7) 0 = v7.toInt := (elm_of c232 0).trans (congrArg Int32.toInt (ee8))
    have q235 : elm (S154 7) 3 = v10.toInt := (elm_of c232 3).trans (congrArg Int32.toInt (ee11))
    have q236 : elm (S154 7) 6 = v13.toInt := (elm_of c232 6).trans (congrArg Int32.toInt (ee14))
    have q237 : elm (S154 7) 8 = v16.toInt := (elm_of c232 8).trans (congrArg Int32.toInt (ee17))
    have q238 : elm (S154 7) 11 = v25.toInt := (elm_of c232 11).trans (congrArg Int32.toInt (ee26))
    have q239 : elm (S154 7) 10 = v28.toInt := (elm_of c232 10).trans (congrArg Int32.toInt (ee29))
    have q240 : elm (S154 7) 13 = v31.toInt := (elm_of c232 13).trans (congrArg Int32.toInt (ee32))
    have q241 : elm (S154 7) 16 = v34.toInt := (elm_of c232 16).trans (congrArg Int32.toInt (ee35))
    have q242 : elm (S154 7) 18 = v37.toInt := (elm_of c232 18).trans (congrArg Int32.toInt (ee38))
    have q243 : elm (S154 6) 1 = v40.toInt := (elm_of c156 1).trans (congrArg Int32.toInt (ee41))
    have q244 : elm (S154 7) 21 = v43.toInt := (elm_of c232 21).trans (congrArg Int32.toInt (ee44))
    have q245 : elm (S154 7) 20 = v46.toInt := (elm_of c232 20).trans (congrArg Int32.toInt (ee47))
    have q246 : elm (S154 7) 23 = v49.toInt := (elm_of c232 23).trans (congrArg Int32.toInt (ee50))
    have q247 : elm (S154 7) 26 = v52.toInt := (elm_of c232 26).trans (congrArg Int32.toInt (ee53))
    have q248 : elm (S154 7) 28 = v55.toInt := (elm_of c232 28).trans (congrArg Int32.toInt (ee56))
    have q249 : elm (S154 6) 2 = v58.toInt := (elm_of c156 2).trans (congrArg Int32.toInt (ee59))
    have q250 : elm (S154 7) 31 = v61.toInt := (elm_of c232 31).trans (congrArg Int32.toInt (ee62))
    have q251 : elm (S154 7) 30 = v64.toInt := (elm_of c232 30).trans (congrArg Int32.toInt (ee65))
    have q252 : elm (S154 7) 33 = v67.toInt := (elm_of c232 33).trans (congrArg Int32.toInt (ee68))
    have q253 : elm (S154 7) 36 = v70.toInt := (elm_of c232 36).trans (congrArg Int32.toInt (ee71))
    have q254 : elm (S154 7) 38 = v73.toInt := (elm_of c232 38).trans (congrArg Int32.toInt (ee74))
    have q255 : elm (S154 6) 3 = v76.toInt := (elm_of c156 3).trans (congrArg Int32.toInt (ee77))
    exact xri E hr hlk hQ (⟨hI, (up_o o_refl eS154 (by decide)), (ib_wk (by decide : Bd (-2) (-2) (-2)) (by decide) (by decide)), (by omega), (by omega), (by omega), (by omega), (by omega), (by omega), (by omega), (by omega), (by omega), (by omega), (by omega), (by omega), (by omega), (by omega), (by omega), (by omega), (by omega), (by omega), (by omega), (by omega), ⟨by omega, by omega⟩, ⟨by omega, by omega⟩, ⟨by omega, by omega⟩, ⟨by omega, by omega⟩, ⟨by omega, by omega⟩, ⟨by omega, by omega⟩, ⟨by omega, by omega⟩, ⟨by omega, by omega⟩, (at_tr hAT0 (up_eq (j := 7) eS154 (by decide)) (up_eq (j := 12) eS154 (by decide))), (at_tr hAT1 (up_eq (j := 7) eS154 (by decide)) (up_eq (j := 12) eS154 (by decide))), (at_tr hAT2 (up_eq (j := 7) eS154 (by decide)) (up_eq (j := 12) eS154 (by decide))), (at_tr hAT3 (up_eq (j := 7) eS154 (by decide)) (up_eq (j := 12) eS154 (by decide)))⟩) dX12_undo_14
set_option maxHeartbeats 4000000 in
set_option maxRecDepth 100000 in
theorem gX12_anew_0 (l : Launch) (g : GG) (ad : Nat → Nat) (hD : Dj ad 20) (S : SS) (hI : InvM g ad S) (hq1 : 0 ≤ 12 * elm (S 7) 1 + (-1) * elm (S 7) 0) (hq2 : 0 ≤ 12 * elm (S 7) 3 + (-1) * elm (S 7) 0) (hq3 : 0 ≤ 8 * elm (S 7) 0 + (-1) * elm (S 7) 6) (hq4 : 0 ≤ 3 * elm (S 7) 0 + (-1) * elm (S 7) 8) (hq5 : 0 ≤ 40000 * elm (S 7) 0 + (-1) * elm (S 6) 0) (hq6 : 0 ≤ 12 * elm (S 7) 11 + (-1) * elm (S 7) 10) (hq7 : 0 ≤ 12 * elm (S 7) 13 + (-1) * elm (S 7) 10) (hq8 : 0 ≤ 8 * elm (S 7) 10 + (-1) * elm (S 7) 16) (hq9 : 0 ≤ 3 * elm (S 7) 10 + (-1) * elm (S 7) 18) (hq10 : 0 ≤ 40000 * elm (S 7) 10 + (-1) * elm (S 6) 1) (hq11 : 0 ≤ 12 * elm (S 7) 21 + (-1) * elm (S 7) 20) (hq12 : 0 ≤ 12 * elm (S 7) 23 + (-1) * elm (S 7) 20) (hq13 : 0 ≤ 8 * elm (S 7) 20 + (-1) * elm (S 7) 26) (hq14 : 0 ≤ 3 * elm (S 7) 20 + (-1) * elm (S 7) 28) (hq15 : 0 ≤ 40000 * elm (S 7) 20 + (-1) * elm (S 6) 2) (hq16 : 0 ≤ 12 * elm (S 7) 31 + (-1) * elm (S 7) 30) (hq17 : 0 ≤ 12 * elm (S 7) 33 + (-1) * elm (S 7) 30) (hq18 : 0 ≤ 8 * elm (S 7) 30 + (-1) * elm (S 7) 36) (hq19 : 0 ≤ 3 * elm (S 7) 30 + (-1) * elm (S 7) 38) (hq20 : 0 ≤ 40000 * elm (S 7) 30 + (-1) * elm (S 6) 3) (hq21 : 0 ≤ (-1) * elm (S 7) 9 + 40) (hq22 : 0 ≤ (-1) * elm (S 7) 19 + 40) (hq23 : 0 ≤ (-1) * elm (S 7) 29 + 40) (hq24 : 0 ≤ (-1) * elm (S 7) 39 + 40) (hAT0 : ATp (S 7) (S 12) 0) (hAT1 : ATp (S 7) (S 12) 1) (hAT2 : ATp (S 7) (S 12) 2) (hAT3 : ATp (S 7) (S 12) 3) : Met l yX12_anew (wG (.code yX12_anew cX12_anew 2 (some .int))) (Rm 1) (XPre g ad 20 S [.ref (ad 0)]) (va_Qi (fun r S' => InvM g ad S' ∧ (∀ j, j ∉ ([0, 7] : List Nat) → S' j = S j) ∧ Bd r (-2) (40) ∧ (0 ≤ 12 * elm (S' 7) 1 + (-1) * elm (S' 7) 0) ∧ (0 ≤ 12 * elm (S' 7) 3 + (-1) * elm (S' 7) 0) ∧ (0 ≤ 8 * elm (S' 7) 0 + (-1) * elm (S' 7) 6) ∧ (0 ≤ 3 * elm (S' 7) 0 + (-1) * elm (S' 7) 8) ∧ (0 ≤ 40000 * elm (S' 7) 0 + (-1) * elm (S' 6) 0) ∧ (0 ≤ 12 * elm (S' 7) 11 + (-1) * elm (S' 7) 10) ∧ (0 ≤ 12 * elm (S' 7) 13 + (-1) * elm (S' 7) 10) ∧ (0 ≤ 8 * elm (S' 7) 10 + (-1) * elm (S' 7) 16) ∧ (0 ≤ 3 * elm (S' 7) 10 + (-1) * elm (S' 7) 18) ∧ (0 ≤ 40000 * elm (S' 7) 10 + (-1) * elm (S' 6) 1) ∧ (0 ≤ 12 * elm (S' 7) 21 + (-1) * elm (S' 7) 20) ∧ (0 ≤ 12 * elm (S' 7) 23 + (-1) * elm (S' 7) 20) ∧ (0 ≤ 8 * elm (S' 7) 20 + (-1) * elm (S' 7) 26) ∧ (0 ≤ 3 * elm (S' 7) 20 + (-1) * elm (S' 7) 28) ∧ (0 ≤ 40000 * elm (S' 7) 20 + (-1) * elm (S' 6) 2) ∧ (0 ≤ 12 * elm (S' 7) 31 + (-1) * elm (S' 7) 30) ∧ (0 ≤ 12 * elm (S' 7) 33 + (-1) * elm (S' 7) 30) ∧ (0 ≤ 8 * elm (S' 7) 30 + (-1) * elm (S' 7) 36) ∧ (0 ≤ 3 * elm (S' 7) 30 + (-1) * elm (S' 7) 38) ∧ (0 ≤ 40000 * elm (S' 7) 30 + (-1) * elm (S' 6) 3) ∧ (0 ≤ elm (S 7) 0 + (-1) * elm (S' 7) 0 ∧ 0 ≤ elm (S' 7) 0 + (-1) * elm (S 7) 0) ∧ (0 ≤ elm (S 7) 6 + (-1) * elm (S' 7) 6 ∧ 0 ≤ elm (S' 7) 6 + (-1) * elm (S 7) 6) ∧ (0 ≤ elm (S 7) 10 + (-1) * elm (S' 7) 10 ∧ 0 ≤ elm (S' 7) 10 + (-1) * elm (S 7) 10) ∧ (0 ≤ elm (S 7) 16 + (-1) * elm (S' 7) 16 ∧ 0 ≤ elm (S' 7) 16 + (-1) * elm (S 7) 16) ∧ (0 ≤ elm (S 7) 20 + (-1) * elm (S' 7) 20 ∧ 0 ≤ elm (S' 7) 20 + (-1) * elm (S 7) 20) ∧ (0 ≤ elm (S 7) 26 + (-1) * elm (S' 7) 26 ∧ 0 ≤ elm (S' 7) 26 + (-1) * elm (S 7) 26) ∧ (0 ≤ elm (S 7) 30 + (-1) * elm (S' 7) 30 ∧ 0 ≤ elm (S' 7) 30 + (-1) * elm (S 7) 30) ∧ (0 ≤ elm (S 7) 36 + (-1) * elm (S' 7) 36 ∧ 0 ≤ elm (S' 7) 36 + (-1) * elm (S 7) 36) ∧ (ATp (S' 7) (S' 12) 0) ∧ (ATp (S' 7) (S' 12) 1) ∧ (ATp (S' 7) (S' 12) 2) ∧ (ATp (S' 7) (S' 12) 3)) (QB g ad 20) (FA ad 20)) 0 0 (FA ad 20) := by
  refine xmet cX12_anew "EbbWreckModel" (by decide) rfl (Nat.le_of_ble_eq_true rfl) (fun p e s m below meth c E hr hlk hml hQ ls hl => ?_)
  have hx := E.1
  have hb := E.2.1
  have hs : Sp ad 20 (FA ad 20) := Sp.fa hD
  have hl : lv_has ls 2 [(0, .ref (ad 0))] := hl
  obtain ⟨f1, c2, b3⟩ := invM_7 hI
  obtain ⟨v4, ee5⟩ : ∃ z : Int32, f1 1 = z := ⟨_, rfl⟩
  have b6 : Bd v4 (0) (12) := (by rw [← ee5]; exact b3.2.1 1 (by decide))
  obtain ⟨v7, ee8⟩ : ∃ z : Int32, f1 0 = z := ⟨_, rfl⟩
  have b9 : Bd v7 (0) (12) := (by rw [← ee8]; exact b3.1 0 (by decide))
  obtain ⟨v10, ee11⟩ : ∃ z : Int32, f1 3 = z := ⟨_, rfl⟩
  have b12 : Bd v10 (0) (12) := (by rw [← ee11]; exact b3.2.2.2.1 3 (by decide))
  obtain ⟨v13, ee14⟩ : ∃ z : Int32, f1 6 = z := ⟨_, rfl⟩
  have b15 : Bd v13 (0) (8) := (by rw [← ee14]; exact b3.2.2.2.2.1 6 (by decide))
  obtain ⟨v16, ee17⟩ : ∃ z : Int32, f1 8 = z := ⟨_, rfl⟩
  have b18 : Bd v16 (0) (3) := (by rw [← ee17]; exact b3.2.2.2.2.2.2.1 8 (by decide))
  obtain ⟨f19, c20, b21⟩ := invM_6 hI
  obtain ⟨v22, ee23⟩ : ∃ z : Int32, f19 0 = z := ⟨_, rfl⟩
  have b24 : Bd v22 (0) (40000) := (by rw [← ee23]; exact b21 0)
  obtain ⟨v25, ee26⟩ : ∃ z : Int32, f1 11 = z := ⟨_, rfl⟩
  have b27 : Bd v25 (0) (12) := (by rw [← ee26]; exact b3.2.1 11 (by decide))
  obtain ⟨v28, ee29⟩ : ∃ z : Int32, f1 10 = z := ⟨_, rfl⟩
  have b30 : Bd v28 (0) (12) := (by rw [← ee29]; exact b3.1 10 (by decide))
  obtain ⟨v31, ee32⟩ : ∃ z : Int32, f1 13 = z := ⟨_, rfl⟩
  have b33 : Bd v31 (0) (12) := (by rw [← ee32]; exact b3.2.2.2.1 13 (by decide))
  obtain ⟨v34, ee35⟩ : ∃ z : Int32, f1 16 = z := ⟨_, rfl⟩
  have b36 : Bd v34 (0) (8) := (by rw [← ee35]; exact b3.2.2.2.2.1 16 (by decide))
  obtain ⟨v37, ee38⟩ : ∃ z : Int32, f1 18 = z := ⟨_, rfl⟩
  have b39 : Bd v37 (0) (3) := (by rw [← ee38]; exact b3.2.2.2.2.2.2.1 18 (by decide))
  obtain ⟨v40, ee41⟩ : ∃ z : Int32, f19 1 = z := ⟨_, rfl⟩
  have b42 : Bd v40 (0) (40000) := (by rw [← ee41]; exact b21 1)
  obtain ⟨v43, ee44⟩ : ∃ z : Int32, f1 21 = z := ⟨_, rfl⟩
  have b45 : Bd v43 (0) (12) := (by rw [← ee44]; exact b3.2.1 21 (by decide))
  obtain ⟨v46, ee47⟩ : ∃ z : Int32, f1 20 = z := ⟨_, rfl⟩
  have b48 : Bd v46 (0) (12) := (by rw [← ee47]; exact b3.1 20 (by decide))
  obtain ⟨v49, ee50⟩ : ∃ z : Int32, f1 23 = z := ⟨_, rfl⟩
  have b51 : Bd v49 (0) (12) := (by rw [← ee50]; exact b3.2.2.2.1 23 (by decide))
  obtain ⟨v52, ee53⟩ : ∃ z : Int32, f1 26 = z := ⟨_, rfl⟩
  have b54 : Bd v52 (0) (8) := (by rw [← ee53]; exact b3.2.2.2.2.1 26 (by decide))
  obtain ⟨v55, ee56⟩ : ∃ z : Int32, f1 28 = z := ⟨_, rfl⟩
  have b57 : Bd v55 (0) (3) := (by rw [← ee56]; exact b3.2.2.2.2.2.2.1 28 (by decide))
  obtain ⟨v58, ee59⟩ : ∃ z : Int32, f19 2 = z := ⟨_, rfl⟩
  have b60 : Bd v58 (0) (40000) := (by rw [← ee59]; exact b21 2)
  obtain ⟨v61, ee62⟩ : ∃ z : Int32, f1 31 = z := ⟨_, rfl⟩
  have b63 : Bd v61 (0) (12) := (by rw [← ee62]; exact b3.2.1 31 (by decide))
  obtain ⟨v64, ee65⟩ : ∃ z : Int32, f1 30 = z := ⟨_, rfl⟩
  have b66 : Bd v64 (0) (12) := (by rw [← ee65]; exact b3.1 30 (by decide))
  obtain ⟨v67, ee68⟩ : ∃ z : Int32, f1 33 = z := ⟨_, rfl⟩
  have b69 : Bd v67 (0) (12) := (by rw [← ee68]; exact b3.2.2.2.1 33 (by decide))
  obtain ⟨v70, ee71⟩ : ∃ z : Int32, f1 36 = z := ⟨_, rfl⟩
  have b72 : Bd v70 (0) (8) := (by rw [← ee71]; exact b3.2.2.2.2.1 36 (by decide))
  obtain ⟨v73, ee74⟩ : ∃ z : Int32, f1 38 = z := ⟨_, rfl⟩
  have b75 : Bd v73 (0) (3) := (by rw [← ee74]; exact b3.2.2.2.2.2.2.1 38 (by decide))
  obtain ⟨v76, ee77⟩ : ∃ z : Int32, f19 3 = z := ⟨_, rfl⟩
  have b78 : Bd v76 (0) (40000) := (by rw [← ee77]; exact b21 3)
  obtain ⟨v79, ee80⟩ : ∃ z : Int32, f1 9 = z := ⟨_, rfl⟩
  have b81 : Bd v79 (0) (40) := (by rw [← ee80]; exact b3.2.2.2.2.2.2.2 9 (by decide))
  obtain ⟨v82, ee83⟩ : ∃ z : Int32, f1 19 = z := ⟨_, rfl⟩
  have b84 : Bd v82 (0) (40) := (by rw [← ee83]; exact b3.2.2.2.2.2.2.2 19 (by decide))
  obtain ⟨v85, ee86⟩ : ∃ z : Int32, f1 29 = z := ⟨_, rfl⟩
  have b87 : Bd v85 (0) (40) := (by rw [← ee86]; exact b3.2.2.2.2.2.2.2 29 (by decide))
  obtain ⟨v88, ee89⟩ : ∃ z : Int32, f1 39 = z := ⟨_, rfl⟩
  have b90 : Bd v88 (0) (40) := (by rw [← ee89]; exact b3.2.2.2.2.2.2.2 39 (by decide))
  have q91 : elm (S 7) 1 = v4.toInt := (elm_of c2 1).trans (congrArg Int32.toInt (ee5))
  have q92 : elm (S 7) 0 = v7.toInt := (elm_of c2 0).trans (congrArg Int32.toInt (ee8))
  have q93 : elm (S 7) 3 = v10.toInt := (elm_of c2 3).trans (congrArg Int32.toInt (ee11))
  have q94 : elm (S 7) 6 = v13.toInt := (elm_of c2 6).trans (congrArg Int32.toInt (ee14))
  have q95 : elm (S 7) 8 = v16.toInt := (elm_of c2 8).trans (congrArg Int32.toInt (ee17))
  have q96 : elm (S 6) 0 = v22.toInt := (elm_of c20 0).trans (congrArg Int32.toInt (ee23))
  have q97 : elm (S 7) 11 = v25.toInt := (elm_of c2 11).trans (congrArg Int32.toInt (ee26))
  have q98 : elm (S 7) 10 = v28.toInt := (elm_of c2 10).trans (congrArg Int32.toInt (ee29))
  have q99 : elm (S 7) 13 = v31.toInt := (elm_of c2 13).trans (congrArg Int32.toInt (ee32))
  have q100 : elm (S 7) 16 = v34.toInt := (elm_of c2 16).trans (congrArg Int32.toInt (ee35))
  have q101 : elm (S 7) 18 = v37.toInt := (elm_of c2 18).trans (congrArg Int32.toInt (ee38))
  have q102 : elm (S 6) 1 = v40.toInt := (elm_of c20 1).trans (congrArg Int32.toInt (ee41))
  have q103 : elm (S 7) 21 = v43.toInt := (elm_of c2 21).trans (congrArg Int32.toInt (ee44))
  have q104 : elm (S 7) 20 = v46.toInt := (elm_of c2 20).trans (congrArg Int32.toInt (ee47))
  have q105 : elm (S 7) 23 = v49.toInt := (elm_of c2 23).trans (congrArg Int32.toInt (ee50))
  have q106 : elm (S 7) 26 = v52.toInt := (elm_of c2 26).trans (congrArg Int32.toInt (ee53))
  have q107 : elm (S 7) 28 = v55.toInt := (elm_of c2 28).trans (congrArg Int32.toInt (ee56))
  have q108 : elm (S 6) 2 = v58.toInt := (elm_of c20 2).trans (congrArg Int32.toInt (ee59))
  have q109 : elm (S 7) 31 = v61.toInt := (elm_of c2 31).trans (congrArg Int32.toInt (ee62))
  have q110 : elm (S 7) 30 = v64.toInt := (elm_of c2 30).trans (congrArg Int32.toInt (ee65))
  have q111 : elm (S 7) 33 = v67.toInt := (elm_of c2 33).trans (congrArg Int32.toInt (ee68))
  have q112 : elm (S 7) 36 = v70.toInt := (elm_of c2 36).trans (congrArg Int32.toInt (ee71))
  have q113 : elm (S 7) 38 = v73.toInt := (elm_of c2 38).trans (congrArg Int32.toInt (ee74))
  have q114 : elm (S 6) 3 = v76.toInt := (elm_of c20 3).trans (congrArg Int32.toInt (ee77))
  have q115 : elm (S 7) 9 = v79.toInt := (elm_of c2 9).trans (congrArg Int32.toInt (ee80))
  have q116 : elm (S 7) 19 = v82.toInt := (elm_of c2 19).trans (congrArg Int32.toInt (ee83))
  have q117 : elm (S 7) 29 = v85.toInt := (elm_of c2 29).trans (congrArg Int32.toInt (ee86))
  have q118 : elm (S 7) 39 = v88.toInt := (elm_of c2 39).trans (congrArg Int32.toInt (ee89))
  obtain ⟨f119, c120, b121⟩ := invM_12 hI
  obtain ⟨f122, c123, b124⟩ := invM_9 hI
  refine lv_aload_n hx hb dX12_anew_0 rfl (lv_at hl 0 rfl) ?_
  refine lv_iconst (v := 0) hx hb dX12_anew_1 (by decide) ?_
  obtain ⟨v125, v126, v128, v130, v132, v133, w134, v135, v137, v138, v139, v140, v142, v144, v146, v148, v150, v151, v152, c153, b127, b129, b131, b136, b141, b143, b145, b147, b149⟩ := invM_0 hI
  have c153 : S 0 = .inr (12, [.int v125, .ref (ad 1), .ref (ad 2), .ref (ad 3), .ref (ad 4), .ref (ad 5), .int v126, .int v128, .int v130, .int v132, .int v133, .long w134, .int v135, .int v137, .int v138, .int v139, .ref (ad 6), .ref (ad 7), .ref (ad 8), .ref (ad 9), .ref (ad 10), .ref (ad 11), .ref (ad 12), .ref (ad 13), .ref (ad 14), .ref (ad 15), .int v140, .int v142, .ref (ad 16), .int v144, .int v146, .int v148, .int v150, .int v151, .ref (ad 17), .ref (ad 18), .int v152, .ref (ad 19)]) := c153
  refine xputi E hs hQ 0 (by decide) c153 rfl 0 (by decide) q1468 rfl rfl (Nat.le_of_ble_eq_true rfl) dX12_anew_2 (fun H locs S154 eS154 hQ => ?_)
  have hI := invM_up_0 hI eS154 ⟨0, v126, v128, v130, v132, v133, w134, v135, v137, v138, v139, v140, v142, v144, v146, v148, v150, v151, v152, rfl, b127, b129, b131, b136, b141, b143, b145, b147, b149⟩
  have c155 : S154 0 = .inr (12, [.int 0, .ref (ad 1), .ref (ad 2), .ref (ad 3), .ref (ad 4), .ref (ad 5), .int v126, .int v128, .int v130, .int v132, .int v133, .long w134, .int v135, .int v137, .int v138, .int v139, .ref (ad 6), .ref (ad 7), .ref (ad 8), .ref (ad 9), .ref (ad 10), .ref (ad 11), .ref (ad 12), .ref (ad 13), .ref (ad 14), .ref (ad 15), .int v140, .int v142, .ref (ad 16), .int v144, .int v146, .int v148, .int v150, .int v151, .ref (ad 17), .ref (ad 18), .int v152, .ref (ad 19)]) := up_at eS154 rfl
  refine lv_aload_n hx hb dX12_anew_5 rfl (lv_at hl 0 rfl) ?_
  have c156 : S154 6 = .inl (g.2 0, 5, .inl f19) := (up_ne eS154 (by decide) c20)
  refine xcVi E hs hQ hml hl.1 0 (gX12_isShore_0 l g ad hD S154 hI ) mX12_isShore q1782 (by decide) c155 rfl rfl ⟨(Nat.le_of_ble_eq_true rfl), (Nat.le_of_ble_eq_true rfl)⟩ ⟨(Nat.le_of_ble_eq_true rfl), (Nat.le_of_ble_eq_true rfl)⟩ (Nat.le_of_ble_eq_true rfl) rfl dX12_anew_6 (fun r157 S157 H locs hp157 hQ _ => ?_)
  obtain ⟨rfl, b157, g157_0⟩ := hp157
  have q158 : elm (S154 6) 0 = v22.toInt := (elm_of c156 0).trans (congrArg Int32.toInt (ee23))
  refine lv_if_ne (tgt := 15) hx hb dX12_anew_9 (by decide) (fun k159 => ?_) (fun k159 => ?_)
  · have h160 := ib_ne k159
    have b161 : Bd r157 (1) (1) := rf_nlo b157 (by decide : Bd 0 (0) (0)) h160
    have g162 := g157_0.resolve_left (by omega)
    clear g157_0
    have b163 : Bd v22 (1) (40000) := ⟨by omega, (b24).2⟩
    refine lv_aload_n hx hb dX12_anew_15 rfl (lv_at hl 0 rfl) ?_
    refine xget E hQ 0 (by decide) c155 rfl 17 (by decide) q1485 rfl dX12_anew_16 ?_
    refine lv_bipush (v := 9) hx hb dX12_anew_19 (by decide) ?_
    have c164 : S154 7 = .inl (g.2 0, 50, .inl f1) := (up_ne eS154 (by decide) c2)
    refine xiald E hQ 7 (by decide) c164 (vp_in_lit 9 50 (by decide)) dX12_anew_21 ?_
    refine sb_at (P := fun z => W _ _ _ _ _ _ _ _ _ _ _ _ _ _ _ (F0 _ _ _ (.int z :: _))) (show f1 (9 : Int32).toNatClampNeg = v79 from ee80) ?_
    refine lv_istore_n (lv' := [(1, .int v79), (0, .ref (ad 0))]) hx hb dX12_anew_22 rfl hl (by decide) rfl (fun ls hl => ?_)
    refine lv_aload_n hx hb dX12_anew_23 rfl (lv_at hl 1 rfl) ?_
    refine xget E hQ 0 (by decide) c155 rfl 17 (by decide) q1485 rfl dX12_anew_24 ?_
    refine lv_bipush (v := 9) hx hb dX12_anew_27 (by decide) ?_
    refine lv_iconst (v := 0) hx hb dX12_anew_29 (by decide) ?_
    refine xiast E hs hQ 7 (by decide) c164 (vp_in_lit 9 50 (by decide)) dX12_anew_30 (fun H locs S165 eS165 hQ => ?_)
    have hI := invM_up_7 hI eS165 ⟨_, rfl, ⟨upd_mn b3.1 (by decide), upd_mn b3.2.1 (by decide), upd_mn b3.2.2.1 (by decide), upd_mn b3.2.2.2.1 (by decide), upd_mn b3.2.2.2.2.1 (by decide), upd_mn b3.2.2.2.2.2.1 (by decide), upd_mn b3.2.2.2.2.2.2.1 (by decide), upd_m b3.2.2.2.2.2.2.2 (ib_wk (by decide : Bd 0 (0) (0)) (by decide) (by decide))⟩⟩
    have b167 : (∀ j, j % 10 = 0 → Bd ((upd f1 (9 : Int32).toNatClampNeg 0) j) (0) (12)) ∧ (∀ j, j % 10 = 1 → Bd ((upd f1 (9 : Int32).toNatClampNeg 0) j) (0) (12)) ∧ (∀ j, j % 10 = 2 → Bd ((upd f1 (9 : Int32).toNatClampNeg 0) j) (0) (6)) ∧ (∀ j, j % 10 = 3 → Bd ((upd f1 (9 : Int32).toNatClampNeg 0) j) (0) (12)) ∧ (∀ j, j % 10 = 6 → Bd ((upd f1 (9 : Int32).toNatClampNeg 0) j) (0) (8)) ∧ (∀ j, j % 10 = 7 → Bd ((upd f1 (9 : Int32).toNatClampNeg 0) j) (0) (6)) ∧ (∀ j, j % 10 = 8 → Bd ((upd f1 (9 : Int32).toNatClampNeg 0) j) (0) (3)) ∧ (∀ j, j % 10 = 9 → Bd ((upd f1 (9 : Int32).toNatClampNeg 0) j) (0) (40)) := ⟨upd_mn b3.1 (by decide), upd_mn b3.2.1 (by decide), upd_mn b3.2.2.1 (by decide), upd_mn b3.2.2.2.1 (by decide), upd_mn b3.2.2.2.2.1 (by decide), upd_mn b3.2.2.2.2.2.1 (by decide), upd_mn b3.2.2.2.2.2.2.1 (by decide), upd_m b3.2.2.2.2.2.2.2 (ib_wk (by decide : Bd 0 (0) (0)) (by decide) (by decide))⟩
    have c166 : S165 7 = .inl (g.2 0, 50, .inl (upd f1 (9 : Int32).toNatClampNeg 0)) := up_at eS165 rfl
    refine lv_iload_n hx hb dX12_anew_31 rfl (lv_at hl 0 rfl) ?_
    have q168 : elm (S165 7) 1 = v4.toInt := (elm_of c166 1).trans (congrArg Int32.toInt (((upd_o (by decide)).trans (ee5))))
    have q169 : elm (S165 7) 0 = v7.toInt := (elm_of c166 0).trans (congrArg Int32.toInt (((upd_o (by decide)).trans (ee8))))
    have q170 : elm (S165 7) 3 = v10.toInt := (elm_of c166 3).trans (congrArg Int32.toInt (((upd_o (by decide)).trans (ee11))))
    have q171 : elm (S165 7) 6 = v13.toInt := (elm_of c166 6).trans (congrArg Int32.toInt (((upd_o (by decide)).trans (ee14))))
    have q172 : elm (S165 7) 8 = v16.toInt := (elm_of c166 8).trans (congrArg Int32.toInt (((upd_o (by decide)).trans (ee17))))
    have c173 : S165 6 = .inl (g.2 0, 5, .inl f19) := (up_ne eS165 (by decide) c156)
    have q174 : elm (S165 6) 0 = v22.toInt := (elm_of c173 0).trans (congrArg Int32.toInt (ee23))
    have q175 : elm (S165 7) 11 = v25.toInt := (elm_of c166 11).trans (congrArg Int32.toInt (((upd_o (by decide)).trans (ee26))))
    have q176 : elm (S165 7) 10 = v28.toInt := (elm_of c166 10).trans (congrArg Int32.toInt (((upd_o (by decide)).trans (ee29))))
    have q177 : elm (S165 7) 13 = v31.toInt := (elm_of c166 13).trans (congrArg Int32.toInt (((upd_o (by decide)).trans (ee32))))
    have q178 : elm (S165 7) 16 = v34.toInt := (elm_of c166 16).trans (congrArg Int32.toInt (((upd_o (by decide)).trans (ee35))))
    have q179 : elm (S165 7) 18 = v37.toInt := (elm_of c166 18).trans (congrArg Int32.toInt (((upd_o (by decide)).trans (ee38))))
    have q180 : elm (S165 6) 1 = v40.toInt := (elm_of c173 1).trans (congrArg Int32.toInt (ee41))
    have q181 : elm (S165 7) 21 = v43.toInt := (elm_of c166 21).trans (congrArg Int32.toInt (((upd_o (by decide)).trans (ee44))))
    have q182 : elm (S165 7) 20 = v46.toInt := (elm_of c166 20).trans (congrArg Int32.toInt (((upd_o (by decide)).trans (ee47))))
    have q183 : elm (S165 7) 23 = v49.toInt := (elm_of c166 23).trans (congrArg Int32.toInt (((upd_o (by decide)).trans (ee50))))
    have q184 : elm (S165 7) 26 = v52.toInt := (elm_of c166 26).trans (congrArg Int32.toInt (((upd_o (by decide)).trans (ee53))))
    have q185 : elm (S165 7) 28 = v55.toInt := (elm_of c166 28).trans (congrArg Int32.toInt (((upd_o (by decide)).trans (ee56))))
    have q186 : elm (S165 6) 2 = v58.toInt := (elm_of c173 2).trans (congrArg Int32.toInt (ee59))
    have q187 : elm (S165 7) 31 = v61.toInt := (elm_of c166 31).trans (congrArg Int32.toInt (((upd_o (by decide)).trans (ee62))))
    have q188 : elm (S165 7) 30 = v64.toInt := (elm_of c166 30).trans (congrArg Int32.toInt (((upd_o (by decide)).trans (ee65))))
    have q189 : elm (S165 7) 33 = v67.toInt := (elm_of c166 33).trans (congrArg Int32.toInt (((upd_o (by decide)).trans (ee68))))
    have q190 : elm (S165 7) 36 = v70.toInt := (elm_of c166 36).trans (congrArg Int32.toInt (((upd_o (by decide)).trans (ee71))))
    have q191 : elm (S165 7) 38 = v73.toInt := (elm_of c166 38).trans (congrArg Int32.toInt (((upd_o (by decide)).trans (ee74))))
    have q192 : elm (S165 6) 3 = v76.toInt := (elm_of c173 3).trans (congrArg Int32.toInt (ee77))
    have q193 : elm (S165 7) 9 = 0 := (elm_of c166 9).trans ((congrArg Int32.toInt ((upd_s))).trans (by decide))
    have q194 : elm (S165 7) 19 = v82.toInt := (elm_of c166 19).trans (congrArg Int32.toInt (((upd_o (by decide)).trans (ee83))))
    have q195 : elm (S165 7) 29 = v85.toInt := (elm_of c166 29).trans (congrArg Int32.toInt (((upd_o (by decide)).trans (ee86))))
    have q196 : elm (S165 7) 39 = v88.toInt := (elm_of c166 39).trans (congrArg Int32.toInt (((upd_o (by decide)).trans (ee89))))
    exact xri E hr hlk hQ (⟨hI, (up_o (up_o o_refl eS154 (by decide)) eS165 (by decide)), (ib_wk b81 (by decide) (by decide)), (by omega), (by omega), (by omega), (by omega), (by omega), (by omega), (by omega), (by omega), (by omega), (by omega), (by omega), (by omega), (by omega), (by omega), (by omega), (by omega), (by omega), (by omega), (by omega), (by omega), ⟨by omega, by omega⟩, ⟨by omega, by omega⟩, ⟨by omega, by omega⟩, ⟨by omega, by omega⟩, ⟨by omega, by omega⟩, ⟨by omega, by omega⟩, ⟨by omega, by omega⟩, ⟨by omega, by omega⟩, (at_mono hAT0 (by show elm _ 9 ≤ elm _ 9; omega) ((up_eq (j := 12) eS165 (by decide)).trans (up_eq (j := 12) eS154 (by decide)))), (at_mono hAT1 (by show elm _ 19 ≤ elm _ 19; omega) ((up_eq (j := 12) eS165 (by decide)).trans (up_eq (j := 12) eS154 (by decide)))), (at_mono hAT2 (by show elm _ 29 ≤ elm _ 29; omega) ((up_eq (j := 12) eS165 (by decide)).trans (up_eq (j := 12) eS154 (by decide)))), (at_mono hAT3 (by show elm _ 39 ≤ elm _ 39; omega) ((up_eq (j := 12) eS165 (by decide)).trans (up_eq (j := 12) eS154 (by decide))))⟩) dX12_anew_32
  · have h197 := ib_eq k159
    have b198 : Bd r157 (0) (0) := ⟨(b157).1, ((rf_eq b157 (by decide : Bd 0 (0) (0)) h197).1).2⟩
    clear g157_0
    refine lv_bipush (v := (-2)) hx hb dX12_anew_12 (by decide) ?_
    have c199 : S154 7 = .inl (g.2 0, 50, .inl f1) := (up_ne eS154 (by decide) c2)
    have q200 : elm (S154 7) 1 = v4.toInt := (elm_of c199 1).trans (congrArg Int32.toInt (ee5))
    have q201 : elm (S154 7) 0 = v7.toInt := (elm_of c199 0).trans (congrArg Int32.toInt (ee8))
    have q202 : elm (S154 7) 3 = v10.toInt := (elm_of c199 3).trans (congrArg Int32.toInt (ee11))
    have q203 : elm (S154 7) 6 = v13.toInt := (elm_of c199 6).trans (congrArg Int32.toInt (ee14))
    have q204 : elm (S154 7) 8 = v16.toInt := (elm_of c199 8).trans (congrArg Int32.toInt (ee17))
    have q205 : elm (S154 7) 11 = v25.toInt := (elm_of c199 11).trans (congrArg Int32.toInt (ee26))
    have q206 : elm (S154 7) 10 = v28.toInt := (elm_of c199 10).trans (congrArg Int32.toInt (ee29))
    have q207 : elm (S154 7) 13 = v31.toInt := (elm_of c199 13).trans (congrArg Int32.toInt (ee32))
    have q208 : elm (S154 7) 16 = v34.toInt := (elm_of c199 16).trans (congrArg Int32.toInt (ee35))
    have q209 : elm (S154 7) 18 = v37.toInt := (elm_of c199 18).trans (congrArg Int32.toInt (ee38))
    have q210 : elm (S154 6) 1 = v40.toInt := (elm_of c156 1).trans (congrArg Int32.toInt (ee41))
    have q211 : elm (S154 7) 21 = v43.toInt := (elm_of c199 21).trans (congrArg Int32.toInt (ee44))
    have q212 : elm (S154 7) 20 = v46.toInt := (elm_of c199 20).trans (congrArg Int32.toInt (ee47))
    have q213 : elm (S154 7) 23 = v49.toInt := (elm_of c199 23).trans (congrArg Int32.toInt (ee50))
    have q214 : elm (S154 7) 26 = v52.toInt := (elm_of c199 26).trans (congrArg Int32.toInt (ee53))
    have q215 : elm (S154 7) 28 = v55.toInt := (elm_of c199 28).trans (congrArg Int32.toInt (ee56))
    have q216 : elm (S154 6) 2 = v58.toInt := (elm_of c156 2).trans (congrArg Int32.toInt (ee59))
    have q217 : elm (S154 7) 31 = v61.toInt := (elm_of c199 31).trans (congrArg Int32.toInt (ee62))
    have q218 : elm (S154 7) 30 = v64.toInt := (elm_of c199 30).trans (congrArg Int32.toInt (ee65))
    have q219 : elm (S154 7) 33 = v67.toInt := (elm_of c199 33).trans (congrArg Int32.toInt (ee68))
    have q220 : elm (S154 7) 36 = v70.toInt := (elm_of c199 36).trans (congrArg Int32.toInt (ee71))
    have q221 : elm (S154 7) 38 = v73.toInt := (elm_of c199 38).trans (congrArg Int32.toInt (ee74))
    have q222 : elm (S154 6) 3 = v76.toInt := (elm_of c156 3).trans (congrArg Int32.toInt (ee77))
    exact xri E hr hlk hQ (⟨hI, (up_o o_refl eS154 (by decide)), (ib_wk (by decide : Bd (-2) (-2) (-2)) (by decide) (by decide)), (by omega), (by omega), (by omega), (by omega), (by omega), (by omega), (by omega), (by omega), (by omega), (by omega), (by omega), (by omega), (by omega), (by omega), (by omega), (by omega), (by omega), (by omega), (by omega), (by omega), ⟨by omega, by omega⟩, ⟨by omega, by omega⟩, ⟨by omega, by omega⟩, ⟨by omega, by omega⟩, ⟨by omega, by omega⟩, ⟨by omega, by omega⟩, ⟨by omega, by omega⟩, ⟨by omega, by omega⟩, (at_tr hAT0 (up_eq (j := 7) eS154 (by decide)) (up_eq (j := 12) eS154 (by decide))), (at_tr hAT1 (up_eq (j := 7) eS154 (by decide)) (up_eq (j := 12) eS154 (by decide))), (at_tr hAT2 (up_eq (j := 7) eS154 (by decide)) (up_eq (j := 12) eS154 (by decide))), (at_tr hAT3 (up_eq (j := 7) eS154 (by decide)) (up_eq (j := 12) eS154 (by decide)))⟩) dX12_anew_14
set_option maxHeartbeats 4000000 in
set_option maxRecDepth 100000 in
theorem gX12_rateH (l : Launch) (g : GG) (ad : Nat → Nat) (hD : Dj ad 20) (S : SS) (hI : InvM g ad S) (a1 : Int32) (a2 : Int32) (hq1 : 0 ≤ 12 * elm (S 7) 1 + (-1) * elm (S 7) 0) (hq2 : 0 ≤ 12 * elm (S 7) 3 + (-1) * elm (S 7) 0) (hq3 : 0 ≤ 8 * elm (S 7) 0 + (-1) * elm (S 7) 6) (hq4 : 0 ≤ 3 * elm (S 7) 0 + (-1) * elm (S 7) 8) (hq5 : 0 ≤ 40000 * elm (S 7) 0 + (-1) * elm (S 6) 0) : Met l yX12_rate (wG (.code yX12_rate cX12_rate 4 (some .int))) (Rm 2) (XPre g ad 20 S [.ref (ad 0), .int a1, .int a2]) (va_Qi (fun _ S' => InvM g ad S' ∧ (∀ j, j ∉ ([0, 9] : List Nat) → S' j = S j) ∧ (EM1 (S' 9) (S 9))) (QB g ad 20) (FA ad 20)) 0 0 (FA ad 20) := by
  refine xmet cX12_rate "EbbWreckModel" (by decide) rfl (Nat.le_of_ble_eq_true rfl) (fun p e s m below meth c E hr hlk hml hQ ls hl => ?_)
  have hx := E.1
  have hb := E.2.1
  have hs : Sp ad 20 (FA ad 20) := Sp.fa hD
  have hl : lv_has ls 4 [(0, .ref (ad 0)), (1, .int a1), (2, .int a2)] := hl
  obtain ⟨f1, c2, b3⟩ := invM_7 hI
  obtain ⟨v4, ee5⟩ : ∃ z : Int32, f1 1 = z := ⟨_, rfl⟩
  have b6 : Bd v4 (0) (12) := (by rw [← ee5]; exact b3.2.1 1 (by decide))
  obtain ⟨v7, ee8⟩ : ∃ z : Int32, f1 0 = z := ⟨_, rfl⟩
  have b9 : Bd v7 (0) (12) := (by rw [← ee8]; exact b3.1 0 (by decide))
  obtain ⟨v10, ee11⟩ : ∃ z : Int32, f1 3 = z := ⟨_, rfl⟩
  have b12 : Bd v10 (0) (12) := (by rw [← ee11]; exact b3.2.2.2.1 3 (by decide))
  obtain ⟨v13, ee14⟩ : ∃ z : Int32, f1 6 = z := ⟨_, rfl⟩
  have b15 : Bd v13 (0) (8) := (by rw [← ee14]; exact b3.2.2.2.2.1 6 (by decide))
  obtain ⟨v16, ee17⟩ : ∃ z : Int32, f1 8 = z := ⟨_, rfl⟩
  have b18 : Bd v16 (0) (3) := (by rw [← ee17]; exact b3.2.2.2.2.2.2.1 8 (by decide))
  obtain ⟨f19, c20, b21⟩ := invM_6 hI
  obtain ⟨v22, ee23⟩ : ∃ z : Int32, f19 0 = z := ⟨_, rfl⟩
  have b24 : Bd v22 (0) (40000) := (by rw [← ee23]; exact b21 0)
  have q25 : elm (S 7) 1 = v4.toInt := (elm_of c2 1).trans (congrArg Int32.toInt (ee5))
  have q26 : elm (S 7) 0 = v7.toInt := (elm_of c2 0).trans (congrArg Int32.toInt (ee8))
  have q27 : elm (S 7) 3 = v10.toInt := (elm_of c2 3).trans (congrArg Int32.toInt (ee11))
  have q28 : elm (S 7) 6 = v13.toInt := (elm_of c2 6).trans (congrArg Int32.toInt (ee14))
  have q29 : elm (S 7) 8 = v16.toInt := (elm_of c2 8).trans (congrArg Int32.toInt (ee17))
  have q30 : elm (S 6) 0 = v22.toInt := (elm_of c20 0).trans (congrArg Int32.toInt (ee23))
  obtain ⟨f31, c32, b33⟩ := invM_9 hI
  refine lv_aload_n hx hb dX12_rate_0 rfl (lv_at hl 0 rfl) ?_
  refine lv_iconst (v := 0) hx hb dX12_rate_1 (by decide) ?_
  obtain ⟨v34, v35, v37, v39, v41, v42, w43, v44, v46, v47, v48, v49, v51, v53, v55, v57, v59, v60, v61, c62, b36, b38, b40, b45, b50, b52, b54, b56, b58⟩ := invM_0 hI
  have c62 : S 0 = .inr (12, [.int v34, .ref (ad 1), .ref (ad 2), .ref (ad 3), .ref (ad 4), .ref (ad 5), .int v35, .int v37, .int v39, .int v41, .int v42, .long w43, .int v44, .int v46, .int v47, .int v48, .ref (ad 6), .ref (ad 7), .ref (ad 8), .ref (ad 9), .ref (ad 10), .ref (ad 11), .ref (ad 12), .ref (ad 13), .ref (ad 14), .ref (ad 15), .int v49, .int v51, .ref (ad 16), .int v53, .int v55, .int v57, .int v59, .int v60, .ref (ad 17), .ref (ad 18), .int v61, .ref (ad 19)]) := c62
  refine xputi E hs hQ 0 (by decide) c62 rfl 0 (by decide) q1468 rfl rfl (Nat.le_of_ble_eq_true rfl) dX12_rate_2 (fun H locs S63 eS63 hQ => ?_)
  have hI := invM_up_0 hI eS63 ⟨0, v35, v37, v39, v41, v42, w43, v44, v46, v47, v48, v49, v51, v53, v55, v57, v59, v60, v61, rfl, b36, b38, b40, b45, b50, b52, b54, b56, b58⟩
  have c64 : S63 0 = .inr (12, [.int 0, .ref (ad 1), .ref (ad 2), .ref (ad 3), .ref (ad 4), .ref (ad 5), .int v35, .int v37, .int v39, .int v41, .int v42, .long w43, .int v44, .int v46, .int v47, .int v48, .ref (ad 6), .ref (ad 7), .ref (ad 8), .ref (ad 9), .ref (ad 10), .ref (ad 11), .ref (ad 12), .ref (ad 13), .ref (ad 14), .ref (ad 15), .int v49, .int v51, .ref (ad 16), .int v53, .int v55, .int v57, .int v59, .int v60, .ref (ad 17), .ref (ad 18), .int v61, .ref (ad 19)]) := up_at eS63 rfl
  refine lv_aload_n hx hb dX12_rate_5 rfl (lv_at hl 0 rfl) ?_
  refine lv_iload_n hx hb dX12_rate_6 rfl (lv_at hl 1 rfl) ?_
  have c65 : S63 7 = .inl (g.2 0, 50, .inl f1) := (up_ne eS63 (by decide) c2)
  refine xcVi E hs hQ hml hl.1 0 (gX12_isThing_0 l g ad hD S63 hI a1) mX12_isThing q1766 (by decide) c64 rfl rfl ⟨(Nat.le_of_ble_eq_true rfl), (Nat.le_of_ble_eq_true rfl)⟩ ⟨(Nat.le_of_ble_eq_true rfl), (Nat.le_of_ble_eq_true rfl)⟩ (Nat.le_of_ble_eq_true rfl) rfl dX12_rate_7 (fun r66 S66 H locs hp66 hQ _ => ?_)
  obtain ⟨rfl, b66, g66_0⟩ := hp66
  have q67 : elm (S63 7) 6 = v13.toInt := (elm_of c65 6).trans (congrArg Int32.toInt (ee14))
  refine lv_if_eq (tgt := 25) hx hb dX12_rate_10 (by decide) (fun k68 => ?_) (fun k68 => ?_)
  · have h69 := ib_eq k68
    have b70 : Bd r66 (0) (0) := ⟨(b66).1, ((rf_eq b66 (by decide : Bd 0 (0) (0)) h69).1).2⟩
    clear g66_0
    refine lv_bipush (v := (-2)) hx hb dX12_rate_25 (by decide) ?_
    have c71 : S63 9 = .inl (g.2 0, 120, .inl f31) := (up_ne eS63 (by decide) c32)
    exact xri E hr hlk hQ (⟨hI, (up_o o_refl eS63 (by decide)), (em_r (up_eq (j := 9) eS63 (by decide)))⟩) dX12_rate_27
  · have h72 := ib_ne k68
    have b73 : Bd r66 (1) (1) := rf_nlo b66 (by decide : Bd 0 (0) (0)) h72
    have g74 := g66_0.resolve_left (by omega)
    clear g66_0
    have b75 : Bd a1 (0) (7) := ⟨by omega, by omega⟩
    have b76 : Bd v13 (1) (8) := ⟨by omega, (b15).2⟩
    refine lv_iload_n hx hb dX12_rate_13 rfl (lv_at hl 2 rfl) ?_
    refine lv_i2l hx hb dX12_rate_14 rfl ?_
    refine lv_topl (fun w77 e78 => ?_)
    have t79 : w77.toInt = a2.toInt := by rw [e78]; exact i2l_i _
    have b80 : BdL w77 (-2147483648) (2147483647) := (by have h1 := ((ib_full a2)).1; have h2 := ((ib_full a2)).2; exact ⟨by omega, by omega⟩)
    refine lv_lconst (v := 0) hx hb dX12_rate_15 (by decide) ?_
    refine lv_ldc2 (v := 999) hx hb E.2.2.1 (E.2.2.2.1 _ q2144) dX12_rate_16 ?_
    have q81 : (0 : Int64).toInt = 0 := by decide
    have q82 : (999 : Int64).toInt = 999 := by decide
    refine xcSi E hs hQ hml hl.1 (gX12_in l g ad hD S63 hI w77 0 999) mX12_in q1591 rfl ⟨(Nat.le_of_ble_eq_true rfl), (Nat.le_of_ble_eq_true rfl)⟩ ⟨(Nat.le_of_ble_eq_true rfl), (Nat.le_of_ble_eq_true rfl)⟩ (Nat.le_of_ble_eq_true rfl) rfl dX12_rate_19 (fun r83 S83 H locs hp83 hQ => ?_)
    obtain ⟨rfl, b83, g83_0, u83_0⟩ := hp83
    refine lv_if_ne (tgt := 28) hx hb dX12_rate_22 (by decide) (fun k84 => ?_) (fun k84 => ?_)
    · have h85 := ib_ne k84
      have b86 : Bd r83 (1) (1) := rf_nlo b83 (by decide : Bd 0 (0) (0)) h85
      have g87 := g83_0.resolve_left (by omega)
      clear g83_0
      have b88 : BdL w77 (0) (999) := ⟨by omega, by omega⟩
      have b89 : Bd a2 (0) (999) := ⟨by omega, by omega⟩
      refine lv_aload_n hx hb dX12_rate_28 rfl (lv_at hl 0 rfl) ?_
      refine xget E hQ 0 (by decide) c64 rfl 17 (by decide) q1485 rfl dX12_rate_29 ?_
      refine lv_bipush (v := 9) hx hb dX12_rate_32 (by decide) ?_
      refine xiald E hQ 7 (by decide) c65 (vp_in_lit 9 50 (by decide)) dX12_rate_34 ?_
      obtain ⟨v90, ee91⟩ : ∃ z : Int32, f1 9 = z := ⟨_, rfl⟩
      have b92 : Bd v90 (0) (40) := (by rw [← ee91]; exact b3.2.2.2.2.2.2.2 9 (by decide))
      refine sb_at (P := fun z => W _ _ _ _ _ _ _ _ _ _ _ _ _ _ _ (F0 _ _ _ (.int z :: _))) (show f1 (9 : Int32).toNatClampNeg = v90 from ee91) ?_
      refine lv_if_le (tgt := 41) hx hb dX12_rate_35 (by decide) (fun k93 => ?_) (fun k93 => ?_)
      · have h94 := ib_le k93
        have b95 : Bd v90 (0) (0) := ⟨(b92).1, ((rf_le b92 (by decide : Bd 0 (0) (0)) h94).1).2⟩
        refine lv_aload_n hx hb dX12_rate_41 rfl (lv_at hl 0 rfl) ?_
        refine xget E hQ 0 (by decide) c64 rfl 19 (by decide) q1487 rfl dX12_rate_42 ?_
        refine lv_iconst (v := 3) hx hb dX12_rate_45 (by decide) ?_
        refine lv_iload_n hx hb dX12_rate_46 rfl (lv_at hl 1 rfl) ?_
        refine lv_imul hx hb dX12_rate_47 ?_
        refine lv_topi (fun z96 e97 => ?_)
        have t98 := ib_cmul (q := 3) e97 (by decide) (by decide) b75 (by decide) (by decide)
        have b99 : Bd z96 (0) (21) := ib_mulb t98 (by decide) b75
        have c100 : S63 9 = .inl (g.2 0, 120, .inl f31) := (up_ne eS63 (by decide) c32)
        refine xiald E hQ 9 (by decide) c100 (ib_in b99 (by decide) (by decide)) dX12_rate_48 ?_
        refine lv_topi (fun z101 e102 => ?_)
        refine lv_istore_n (lv' := [(3, .int z101), (0, .ref (ad 0)), (1, .int a1), (2, .int a2)]) hx hb dX12_rate_49 rfl hl (by decide) rfl (fun ls hl => ?_)
        refine lv_aload_n hx hb dX12_rate_50 rfl (lv_at hl 1 rfl) ?_
        refine xget E hQ 0 (by decide) c64 rfl 19 (by decide) q1487 rfl dX12_rate_51 ?_
        refine lv_iconst (v := 3) hx hb dX12_rate_54 (by decide) ?_
        refine lv_iload_n hx hb dX12_rate_55 rfl (lv_at hl 2 rfl) ?_
        refine lv_imul hx hb dX12_rate_56 ?_
        refine lv_topi (fun z103 e104 => ?_)
        have t105 := ib_cmul (q := 3) e104 (by decide) (by decide) b75 (by decide) (by decide)
        have b106 : Bd z103 (0) (21) := ib_mulb t105 (by decide) b75
        refine lv_iload_n hx hb dX12_rate_57 rfl (lv_at hl 3 rfl) ?_
        refine xiast E hs hQ 9 (by decide) c100 (ib_in b106 (by decide) (by decide)) dX12_rate_58 (fun H locs S107 eS107 hQ => ?_)
        have hI := invM_up_9 hI eS107 ⟨_, rfl, ⟨upd_mn b33.1 (by rw [clampN b106]; omega), upd_mn b33.2 (by rw [clampN b106]; omega)⟩⟩
        have b109 : (∀ j, j % 3 = 1 → Bd ((upd f31 (z103 : Int32).toNatClampNeg a2) j) (0) (11)) ∧ (∀ j, j % 3 = 2 → Bd ((upd f31 (z103 : Int32).toNatClampNeg a2) j) (0) (99)) := ⟨upd_mn b33.1 (by rw [clampN b106]; omega), upd_mn b33.2 (by rw [clampN b106]; omega)⟩
        have c108 : S107 9 = .inl (g.2 0, 120, .inl (upd f31 (z103 : Int32).toNatClampNeg a2)) := up_at eS107 rfl
        refine lv_iload_n hx hb dX12_rate_59 rfl (lv_at hl 0 rfl) ?_
        exact xri E hr hlk hQ (⟨hI, (up_o (up_o o_refl eS63 (by decide)) eS107 (by decide)), (em_u c32 c108 (by rw [clampN b106]; omega))⟩) dX12_rate_60
      · have h110 := ib_nle k93
        have b111 : Bd v90 (1) (40) := ⟨((rf_lt (by decide : Bd 0 (0) (0)) b92 h110).2).1, (b92).2⟩
        refine lv_bipush (v := (-5)) hx hb dX12_rate_38 (by decide) ?_
        have c112 : S63 9 = .inl (g.2 0, 120, .inl f31) := (up_ne eS63 (by decide) c32)
        exact xri E hr hlk hQ (⟨hI, (up_o o_refl eS63 (by decide)), (em_r (up_eq (j := 9) eS63 (by decide)))⟩) dX12_rate_40
    · have h113 := ib_eq k84
      have b114 : Bd r83 (0) (0) := ⟨(b83).1, ((rf_eq b83 (by decide : Bd 0 (0) (0)) h113).1).2⟩
      clear g83_0
      refine lv_bipush (v := (-2)) hx hb dX12_rate_25 (by decide) ?_
      have c115 : S63 9 = .inl (g.2 0, 120, .inl f31) := (up_ne eS63 (by decide) c32)
      exact xri E hr hlk hQ (⟨hI, (up_o o_refl eS63 (by decide)), (em_r (up_eq (j := 9) eS63 (by decide)))⟩) dX12_rate_27
set_option maxHeartbeats 4000000 in
set_option maxRecDepth 100000 in
theorem gX12_image_0 (l : Launch) (g : GG) (ad : Nat → Nat) (hD : Dj ad 20) (S : SS) (hI : InvM g ad S) (a1 : Int32) (hq1 : 0 ≤ 12 * elm (S 7) 1 + (-1) * elm (S 7) 0) (hq2 : 0 ≤ 12 * elm (S 7) 3 + (-1) * elm (S 7) 0) (hq3 : 0 ≤ 8 * elm (S 7) 0 + (-1) * elm (S 7) 6) (hq4 : 0 ≤ 3 * elm (S 7) 0 + (-1) * elm (S 7) 8) (hq5 : 0 ≤ 40000 * elm (S 7) 0 + (-1) * elm (S 6) 0) (hq6 : 0 ≤ 12 * elm (S 7) 11 + (-1) * elm (S 7) 10) (hq7 : 0 ≤ 12 * elm (S 7) 13 + (-1) * elm (S 7) 10) (hq8 : 0 ≤ 8 * elm (S 7) 10 + (-1) * elm (S 7) 16) (hq9 : 0 ≤ 3 * elm (S 7) 10 + (-1) * elm (S 7) 18) (hq10 : 0 ≤ 40000 * elm (S 7) 10 + (-1) * elm (S 6) 1) (hq11 : 0 ≤ 12 * elm (S 7) 21 + (-1) * elm (S 7) 20) (hq12 : 0 ≤ 12 * elm (S 7) 23 + (-1) * elm (S 7) 20) (hq13 : 0 ≤ 8 * elm (S 7) 20 + (-1) * elm (S 7) 26) (hq14 : 0 ≤ 3 * elm (S 7) 20 + (-1) * elm (S 7) 28) (hq15 : 0 ≤ 40000 * elm (S 7) 20 + (-1) * elm (S 6) 2) (hq16 : 0 ≤ 12 * elm (S 7) 31 + (-1) * elm (S 7) 30) (hq17 : 0 ≤ 12 * elm (S 7) 33 + (-1) * elm (S 7) 30) (hq18 : 0 ≤ 8 * elm (S 7) 30 + (-1) * elm (S 7) 36) (hq19 : 0 ≤ 3 * elm (S 7) 30 + (-1) * elm (S 7) 38) (hq20 : 0 ≤ 40000 * elm (S 7) 30 + (-1) * elm (S 6) 3) (hAT0 : ATp (S 7) (S 12) 0) (hAT1 : ATp (S 7) (S 12) 1) (hAT2 : ATp (S 7) (S 12) 2) (hAT3 : ATp (S 7) (S 12) 3) (hHT0 : HTp (S 7) (S 9) 0) (hHT1 : HTp (S 7) (S 9) 1) (hHT2 : HTp (S 7) (S 9) 2) (hHT3 : HTp (S 7) (S 9) 3) : Met l yX12_image (wG (.code yX12_image cX12_image 2 (some .int))) (Rm 2) (XPre g ad 20 S [.ref (ad 0), .int a1]) (va_Qi (fun r S' => InvM g ad S' ∧ (∀ j, j ∉ ([0, 6, 7, 8, 9, 10, 11, 12, 13] : List Nat) → S' j = S j) ∧ Bd r (-2) (0) ∧ (0 ≤ 12 * elm (S' 7) 1 + (-1) * elm (S' 7) 0) ∧ (0 ≤ 12 * elm (S' 7) 3 + (-1) * elm (S' 7) 0) ∧ (0 ≤ 8 * elm (S' 7) 0 + (-1) * elm (S' 7) 6) ∧ (0 ≤ 3 * elm (S' 7) 0 + (-1) * elm (S' 7) 8) ∧ (0 ≤ 40000 * elm (S' 7) 0 + (-1) * elm (S' 6) 0) ∧ (0 ≤ 12 * elm (S' 7) 11 + (-1) * elm (S' 7) 10) ∧ (0 ≤ 12 * elm (S' 7) 13 + (-1) * elm (S' 7) 10) ∧ (0 ≤ 8 * elm (S' 7) 10 + (-1) * elm (S' 7) 16) ∧ (0 ≤ 3 * elm (S' 7) 10 + (-1) * elm (S' 7) 18) ∧ (0 ≤ 40000 * elm (S' 7) 10 + (-1) * elm (S' 6) 1) ∧ (0 ≤ 12 * elm (S' 7) 21 + (-1) * elm (S' 7) 20) ∧ (0 ≤ 12 * elm (S' 7) 23 + (-1) * elm (S' 7) 20) ∧ (0 ≤ 8 * elm (S' 7) 20 + (-1) * elm (S' 7) 26) ∧ (0 ≤ 3 * elm (S' 7) 20 + (-1) * elm (S' 7) 28) ∧ (0 ≤ 40000 * elm (S' 7) 20 + (-1) * elm (S' 6) 2) ∧ (0 ≤ 12 * elm (S' 7) 31 + (-1) * elm (S' 7) 30) ∧ (0 ≤ 12 * elm (S' 7) 33 + (-1) * elm (S' 7) 30) ∧ (0 ≤ 8 * elm (S' 7) 30 + (-1) * elm (S' 7) 36) ∧ (0 ≤ 3 * elm (S' 7) 30 + (-1) * elm (S' 7) 38) ∧ (0 ≤ 40000 * elm (S' 7) 30 + (-1) * elm (S' 6) 3) ∧ (ATp (S' 7) (S' 12) 0) ∧ (ATp (S' 7) (S' 12) 1) ∧ (ATp (S' 7) (S' 12) 2) ∧ (ATp (S' 7) (S' 12) 3) ∧ (HTp (S' 7) (S' 9) 0) ∧ (HTp (S' 7) (S' 9) 1) ∧ (HTp (S' 7) (S' 9) 2) ∧ (HTp (S' 7) (S' 9) 3) ∧ (r = ansImage a1) ∧ (PUp (S' 13) (S 13) a1.toInt 1 3)) (QB g ad 20) (FA ad 20)) 0 0 (FA ad 20) := by
  refine xmet cX12_image "EbbWreckModel" (by decide) rfl (Nat.le_of_ble_eq_true rfl) (fun p e s m below meth c E hr hlk hml hQ ls hl => ?_)
  have hx := E.1
  have hb := E.2.1
  have hs : Sp ad 20 (FA ad 20) := Sp.fa hD
  have hl : lv_has ls 2 [(0, .ref (ad 0)), (1, .int a1)] := hl
  obtain ⟨f1, c2, b3⟩ := invM_7 hI
  obtain ⟨v4, ee5⟩ : ∃ z : Int32, f1 1 = z := ⟨_, rfl⟩
  have b6 : Bd v4 (0) (12) := (by rw [← ee5]; exact b3.2.1 1 (by decide))
  obtain ⟨v7, ee8⟩ : ∃ z : Int32, f1 0 = z := ⟨_, rfl⟩
  have b9 : Bd v7 (0) (12) := (by rw [← ee8]; exact b3.1 0 (by decide))
  obtain ⟨v10, ee11⟩ : ∃ z : Int32, f1 3 = z := ⟨_, rfl⟩
  have b12 : Bd v10 (0) (12) := (by rw [← ee11]; exact b3.2.2.2.1 3 (by decide))
  obtain ⟨v13, ee14⟩ : ∃ z : Int32, f1 6 = z := ⟨_, rfl⟩
  have b15 : Bd v13 (0) (8) := (by rw [← ee14]; exact b3.2.2.2.2.1 6 (by decide))
  obtain ⟨v16, ee17⟩ : ∃ z : Int32, f1 8 = z := ⟨_, rfl⟩
  have b18 : Bd v16 (0) (3) := (by rw [← ee17]; exact b3.2.2.2.2.2.2.1 8 (by decide))
  obtain ⟨f19, c20, b21⟩ := invM_6 hI
  obtain ⟨v22, ee23⟩ : ∃ z : Int32, f19 0 = z := ⟨_, rfl⟩
  have b24 : Bd v22 (0) (40000) := (by rw [← ee23]; exact b21 0)
  obtain ⟨v25, ee26⟩ : ∃ z : Int32, f1 11 = z := ⟨_, rfl⟩
  have b27 : Bd v25 (0) (12) := (by rw [← ee26]; exact b3.2.1 11 (by decide))
  obtain ⟨v28, ee29⟩ : ∃ z : Int32, f1 10 = z := ⟨_, rfl⟩
  have b30 : Bd v28 (0) (12) := (by rw [← ee29]; exact b3.1 10 (by decide))
  obtain ⟨v31, ee32⟩ : ∃ z : Int32, f1 13 = z := ⟨_, rfl⟩
  have b33 : Bd v31 (0) (12) := (by rw [← ee32]; exact b3.2.2.2.1 13 (by decide))
  obtain ⟨v34, ee35⟩ : ∃ z : Int32, f1 16 = z := ⟨_, rfl⟩
  have b36 : Bd v34 (0) (8) := (by rw [← ee35]; exact b3.2.2.2.2.1 16 (by decide))
  obtain ⟨v37, ee38⟩ : ∃ z : Int32, f1 18 = z := ⟨_, rfl⟩
  have b39 : Bd v37 (0) (3) := (by rw [← ee38]; exact b3.2.2.2.2.2.2.1 18 (by decide))
  obtain ⟨v40, ee41⟩ : ∃ z : Int32, f19 1 = z := ⟨_, rfl⟩
  have b42 : Bd v40 (0) (40000) := (by rw [← ee41]; exact b21 1)
  obtain ⟨v43, ee44⟩ : ∃ z : Int32, f1 21 = z := ⟨_, rfl⟩
  have b45 : Bd v43 (0) (12) := (by rw [← ee44]; exact b3.2.1 21 (by decide))
  obtain ⟨v46, ee47⟩ : ∃ z : Int32, f1 20 = z := ⟨_, rfl⟩
  have b48 : Bd v46 (0) (12) := (by rw [← ee47]; exact b3.1 20 (by decide))
  obtain ⟨v49, ee50⟩ : ∃ z : Int32, f1 23 = z := ⟨_, rfl⟩
  have b51 : Bd v49 (0) (12) := (by rw [← ee50]; exact b3.2.2.2.1 23 (by decide))
  obtain ⟨v52, ee53⟩ : ∃ z : Int32, f1 26 = z := ⟨_, rfl⟩
  have b54 : Bd v52 (0) (8) := (by rw [← ee53]; exact b3.2.2.2.2.1 26 (by decide))
  obtain ⟨v55, ee56⟩ : ∃ z : Int32, f1 28 = z := ⟨_, rfl⟩
  have b57 : Bd v55 (0) (3) := (by rw [← ee56]; exact b3.2.2.2.2.2.2.1 28 (by decide))
  obtain ⟨v58, ee59⟩ : ∃ z : Int32, f19 2 = z := ⟨_, rfl⟩
  have b60 : Bd v58 (0) (40000) := (by rw [← ee59]; exact b21 2)
  obtain ⟨v61, ee62⟩ : ∃ z : Int32, f1 31 = z := ⟨_, rfl⟩
  have b63 : Bd v61 (0) (12) := (by rw [← ee62]; exact b3.2.1 31 (by decide))
  obtain ⟨v64, ee65⟩ : ∃ z : Int32, f1 30 = z := ⟨_, rfl⟩
  have b66 : Bd v64 (0) (12) := (by rw [← ee65]; exact b3.1 30 (by decide))
  obtain ⟨v67, ee68⟩ : ∃ z : Int32, f1 33 = z := ⟨_, rfl⟩
  have b69 : Bd v67 (0) (12) := (by rw [← ee68]; exact b3.2.2.2.1 33 (by decide))
  obtain ⟨v70, ee71⟩ : ∃ z : Int32, f1 36 = z := ⟨_, rfl⟩
  have b72 : Bd v70 (0) (8) := (by rw [← ee71]; exact b3.2.2.2.2.1 36 (by decide))
  obtain ⟨v73, ee74⟩ : ∃ z : Int32, f1 38 = z := ⟨_, rfl⟩
  have b75 : Bd v73 (0) (3) := (by rw [← ee74]; exact b3.2.2.2.2.2.2.1 38 (by decide))
  obtain ⟨v76, ee77⟩ : ∃ z : Int32, f19 3 = z := ⟨_, rfl⟩
  have b78 : Bd v76 (0) (40000) := (by rw [← ee77]; exact b21 3)
  have q79 : elm (S 7) 1 = v4.toInt := (elm_of c2 1).trans (congrArg Int32.toInt (ee5))
  have q80 : elm (S 7) 0 = v7.toInt := (elm_of c2 0).trans (congrArg Int32.toInt (ee8))
  have q81 : elm (S 7) 3 = v10.toInt := (elm_of c2 3).trans (congrArg Int32.toInt (ee11))
  have q82 : elm (S 7) 6 = v13.toInt := (elm_of c2 6).trans (congrArg Int32.toInt (ee14))
  have q83 : elm (S 7) 8 = v16.toInt := (elm_of c2 8).trans (congrArg Int32.toInt (ee17))
  have q84 : elm (S 6) 0 = v22.toInt := (elm_of c20 0).trans (congrArg Int32.toInt (ee23))
  have q85 : elm (S 7) 11 = v25.toInt := (elm_of c2 11).trans (congrArg Int32.toInt (ee26))
  have q86 : elm (S 7) 10 = v28.toInt := (elm_of c2 10).trans (congrArg Int32.toInt (ee29))
  have q87 : elm (S 7) 13 = v31.toInt := (elm_of c2 13).trans (congrArg Int32.toInt (ee32))
  have q88 : elm (S 7) 16 = v34.toInt := (elm_of c2 16).trans (congrArg Int32.toInt (ee35))
  have q89 : elm (S 7) 18 = v37.toInt := (elm_of c2 18).trans (congrArg Int32.toInt (ee38))
  have q90 : elm (S 6) 1 = v40.toInt := (elm_of c20 1).trans (congrArg Int32.toInt (ee41))
  have q91 : elm (S 7) 21 = v43.toInt := (elm_of c2 21).trans (congrArg Int32.toInt (ee44))
  have q92 : elm (S 7) 20 = v46.toInt := (elm_of c2 20).trans (congrArg Int32.toInt (ee47))
  have q93 : elm (S 7) 23 = v49.toInt := (elm_of c2 23).trans (congrArg Int32.toInt (ee50))
  have q94 : elm (S 7) 26 = v52.toInt := (elm_of c2 26).trans (congrArg Int32.toInt (ee53))
  have q95 : elm (S 7) 28 = v55.toInt := (elm_of c2 28).trans (congrArg Int32.toInt (ee56))
  have q96 : elm (S 6) 2 = v58.toInt := (elm_of c20 2).trans (congrArg Int32.toInt (ee59))
  have q97 : elm (S 7) 31 = v61.toInt := (elm_of c2 31).trans (congrArg Int32.toInt (ee62))
  have q98 : elm (S 7) 30 = v64.toInt := (elm_of c2 30).trans (congrArg Int32.toInt (ee65))
  have q99 : elm (S 7) 33 = v67.toInt := (elm_of c2 33).trans (congrArg Int32.toInt (ee68))
  have q100 : elm (S 7) 36 = v70.toInt := (elm_of c2 36).trans (congrArg Int32.toInt (ee71))
  have q101 : elm (S 7) 38 = v73.toInt := (elm_of c2 38).trans (congrArg Int32.toInt (ee74))
  have q102 : elm (S 6) 3 = v76.toInt := (elm_of c20 3).trans (congrArg Int32.toInt (ee77))
  obtain ⟨f103, c104, b105⟩ := invM_12 hI
  obtain ⟨f106, c107, b108⟩ := invM_9 hI
  obtain ⟨v109, ee110⟩ : ∃ z : Int32, f1 9 = z := ⟨_, rfl⟩
  have b111 : Bd v109 (0) (40) := (by rw [← ee110]; exact b3.2.2.2.2.2.2.2 9 (by decide))
  obtain ⟨v112, ee113⟩ : ∃ z : Int32, f1 19 = z := ⟨_, rfl⟩
  have b114 : Bd v112 (0) (40) := (by rw [← ee113]; exact b3.2.2.2.2.2.2.2 19 (by decide))
  obtain ⟨v115, ee116⟩ : ∃ z : Int32, f1 29 = z := ⟨_, rfl⟩
  have b117 : Bd v115 (0) (40) := (by rw [← ee116]; exact b3.2.2.2.2.2.2.2 29 (by decide))
  obtain ⟨v118, ee119⟩ : ∃ z : Int32, f1 39 = z := ⟨_, rfl⟩
  have b120 : Bd v118 (0) (40) := (by rw [← ee119]; exact b3.2.2.2.2.2.2.2 39 (by decide))
  obtain ⟨f121, c122, b123⟩ := invM_13 hI
  refine lv_aload_n hx hb dX12_image_0 rfl (lv_at hl 0 rfl) ?_
  refine lv_iconst (v := 0) hx hb dX12_image_1 (by decide) ?_
  obtain ⟨v124, v125, v127, v129, v131, v132, w133, v134, v136, v137, v138, v139, v141, v143, v145, v147, v149, v150, v151, c152, b126, b128, b130, b135, b140, b142, b144, b146, b148⟩ := invM_0 hI
  have c152 : S 0 = .inr (12, [.int v124, .ref (ad 1), .ref (ad 2), .ref (ad 3), .ref (ad 4), .ref (ad 5), .int v125, .int v127, .int v129, .int v131, .int v132, .long w133, .int v134, .int v136, .int v137, .int v138, .ref (ad 6), .ref (ad 7), .ref (ad 8), .ref (ad 9), .ref (ad 10), .ref (ad 11), .ref (ad 12), .ref (ad 13), .ref (ad 14), .ref (ad 15), .int v139, .int v141, .ref (ad 16), .int v143, .int v145, .int v147, .int v149, .int v150, .ref (ad 17), .ref (ad 18), .int v151, .ref (ad 19)]) := c152
  refine xputi E hs hQ 0 (by decide) c152 rfl 0 (by decide) q1468 rfl rfl (Nat.le_of_ble_eq_true rfl) dX12_image_2 (fun H locs S153 eS153 hQ => ?_)
  have hI := invM_up_0 hI eS153 ⟨0, v125, v127, v129, v131, v132, w133, v134, v136, v137, v138, v139, v141, v143, v145, v147, v149, v150, v151, rfl, b126, b128, b130, b135, b140, b142, b144, b146, b148⟩
  have c154 : S153 0 = .inr (12, [.int 0, .ref (ad 1), .ref (ad 2), .ref (ad 3), .ref (ad 4), .ref (ad 5), .int v125, .int v127, .int v129, .int v131, .int v132, .long w133, .int v134, .int v136, .int v137, .int v138, .ref (ad 6), .ref (ad 7), .ref (ad 8), .ref (ad 9), .ref (ad 10), .ref (ad 11), .ref (ad 12), .ref (ad 13), .ref (ad 14), .ref (ad 15), .int v139, .int v141, .ref (ad 16), .int v143, .int v145, .int v147, .int v149, .int v150, .ref (ad 17), .ref (ad 18), .int v151, .ref (ad 19)]) := up_at eS153 rfl
  refine lv_iload_n hx hb dX12_image_5 rfl (lv_at hl 1 rfl) ?_
  refine lv_i2l hx hb dX12_image_6 rfl ?_
  refine lv_topl (fun w155 e156 => ?_)
  have t157 : w155.toInt = a1.toInt := by rw [e156]; exact i2l_i _
  have b158 : BdL w155 (-2147483648) (2147483647) := (by have h1 := ((ib_full a1)).1; have h2 := ((ib_full a1)).2; exact ⟨by omega, by omega⟩)
  refine lv_lconst (v := 0) hx hb dX12_image_7 (by decide) ?_
  refine lv_ldc2 (v := 2) hx hb E.2.2.1 (E.2.2.2.1 _ q1754) dX12_image_8 ?_
  have q159 : (0 : Int64).toInt = 0 := by decide
  have q160 : (2 : Int64).toInt = 2 := by decide
  refine xcSi E hs hQ hml hl.1 (gX12_in l g ad hD S153 hI w155 0 2) mX12_in q1591 rfl ⟨(Nat.le_of_ble_eq_true rfl), (Nat.le_of_ble_eq_true rfl)⟩ ⟨(Nat.le_of_ble_eq_true rfl), (Nat.le_of_ble_eq_true rfl)⟩ (Nat.le_of_ble_eq_true rfl) rfl dX12_image_11 (fun r161 S161 H locs hp161 hQ => ?_)
  obtain ⟨rfl, b161, g161_0, u161_0⟩ := hp161
  refine lv_if_ne (tgt := 20) hx hb dX12_image_14 (by decide) (fun k162 => ?_) (fun k162 => ?_)
  · have h163 := ib_ne k162
    have b164 : Bd r161 (1) (1) := rf_nlo b161 (by decide : Bd 0 (0) (0)) h163
    have g165 := g161_0.resolve_left (by omega)
    clear g161_0
    have b166 : BdL w155 (0) (2) := ⟨by omega, by omega⟩
    have b167 : Bd a1 (0) (2) := ⟨by omega, by omega⟩
    refine lv_aload_n hx hb dX12_image_20 rfl (lv_at hl 0 rfl) ?_
    refine lv_iconst (v := 0) hx hb dX12_image_21 (by decide) ?_
    refine lv_iconst (v := 1) hx hb dX12_image_22 (by decide) ?_
    refine lv_iload_n hx hb dX12_image_23 rfl (lv_at hl 1 rfl) ?_
    refine lv_iadd hx hb dX12_image_24 ?_
    refine lv_topi (fun z168 e169 => ?_)
    have t170 := ib_add e169 (by decide : Bd 1 (1) (1)) b167 (by decide) (by decide)
    have b171 : Bd z168 (1) (3) := ib_addb t170 (by decide : Bd 1 (1) (1)) b167
    have t170 : z168.toInt = 1 + a1.toInt := fold_add t170 (by decide) rfl
    rcases bd_r13 b171 with h172 | h172 | h172
    · subst h172
      have q173 : (0 : Int32).toInt = 0 := by decide
      have q174 : (1 : Int32).toInt = 1 := by decide
      have c175 : S153 7 = .inl (g.2 0, 50, .inl f1) := (up_ne eS153 (by decide) c2)
      have c176 : S153 6 = .inl (g.2 0, 5, .inl f19) := (up_ne eS153 (by decide) c20)
      refine xcVv E hs hQ hml hl.1 0 (gX12_copyShore_0_1 l g ad hD S153 hI (at_tr hAT0 (up_eq (j := 7) eS153 (by decide)) (up_eq (j := 12) eS153 (by decide))) (at_tr hAT1 (up_eq (j := 7) eS153 (by decide)) (up_eq (j := 12) eS153 (by decide))) (at_tr hAT2 (up_eq (j := 7) eS153 (by decide)) (up_eq (j := 12) eS153 (by decide))) (at_tr hAT3 (up_eq (j := 7) eS153 (by decide)) (up_eq (j := 12) eS153 (by decide))) (ht_tr hHT0 (up_eq (j := 7) eS153 (by decide)) (up_eq (j := 9) eS153 (by decide))) (ht_tr hHT1 (up_eq (j := 7) eS153 (by decide)) (up_eq (j := 9) eS153 (by decide))) (ht_tr hHT2 (up_eq (j := 7) eS153 (by decide)) (up_eq (j := 9) eS153 (by decide))) (ht_tr hHT3 (up_eq (j := 7) eS153 (by decide)) (up_eq (j := 9) eS153 (by decide)))) mX12_copyShore q1739 (by decide) c154 rfl rfl ⟨(Nat.le_of_ble_eq_true rfl), (Nat.le_of_ble_eq_true rfl)⟩ ⟨(Nat.le_of_ble_eq_true rfl), (Nat.le_of_ble_eq_true rfl)⟩ (Nat.le_of_ble_eq_true rfl) rfl dX12_image_25 (fun S177 H locs hp177 hQ _ => ?_)
      obtain ⟨hI, o177, g177_0, g177_1, g177_2, g177_3, g177_4, g177_5, g177_6, g177_7, g177_8, g177_9, g177_10, g177_11, g177_12, g177_13, g177_14, g177_15, g177_16, g177_17, g177_18, g177_19, g177_20, g177_21, g177_22, g177_23, g177_24, g177_25, g177_26, g177_27, u177_0, u177_1, u177_2, u177_3, u177_4, u177_5, u177_6, u177_7⟩ := hp177
      have q178 : elm (S153 7) 0 = v7.toInt := (elm_of c175 0).trans (congrArg Int32.toInt (ee8))
      obtain ⟨f179, c180, b181⟩ := invM_7 hI
      obtain ⟨v182, ee183⟩ : ∃ z : Int32, f179 10 = z := ⟨_, rfl⟩
      have b184 : Bd v182 (0) (12) := (by rw [← ee183]; exact b181.1 10 (by decide))
      have q185 : elm (S177 7) 10 = v182.toInt := (elm_of c180 10).trans (congrArg Int32.toInt (ee183))
      have q186 : elm (S153 7) 1 = v4.toInt := (elm_of c175 1).trans (congrArg Int32.toInt (ee5))
      obtain ⟨v187, ee188⟩ : ∃ z : Int32, f179 11 = z := ⟨_, rfl⟩
      have b189 : Bd v187 (0) (12) := (by rw [← ee188]; exact b181.2.1 11 (by decide))
      have q190 : elm (S177 7) 11 = v187.toInt := (elm_of c180 11).trans (congrArg Int32.toInt (ee188))
      have q191 : elm (S153 7) 3 = v10.toInt := (elm_of c175 3).trans (congrArg Int32.toInt (ee11))
      obtain ⟨v192, ee193⟩ : ∃ z : Int32, f179 13 = z := ⟨_, rfl⟩
      have b194 : Bd v192 (0) (12) := (by rw [← ee193]; exact b181.2.2.2.1 13 (by decide))
      have q195 : elm (S177 7) 13 = v192.toInt := (elm_of c180 13).trans (congrArg Int32.toInt (ee193))
      have q196 : elm (S153 7) 6 = v13.toInt := (elm_of c175 6).trans (congrArg Int32.toInt (ee14))
      obtain ⟨v197, ee198⟩ : ∃ z : Int32, f179 16 = z := ⟨_, rfl⟩
      have b199 : Bd v197 (0) (8) := (by rw [← ee198]; exact b181.2.2.2.2.1 16 (by decide))
      have q200 : elm (S177 7) 16 = v197.toInt := (elm_of c180 16).trans (congrArg Int32.toInt (ee198))
      have q201 : elm (S153 7) 8 = v16.toInt := (elm_of c175 8).trans (congrArg Int32.toInt (ee17))
      obtain ⟨v202, ee203⟩ : ∃ z : Int32, f179 18 = z := ⟨_, rfl⟩
      have b204 : Bd v202 (0) (3) := (by rw [← ee203]; exact b181.2.2.2.2.2.2.1 18 (by decide))
      have q205 : elm (S177 7) 18 = v202.toInt := (elm_of c180 18).trans (congrArg Int32.toInt (ee203))
      have q206 : elm (S153 7) 9 = v109.toInt := (elm_of c175 9).trans (congrArg Int32.toInt (ee110))
      obtain ⟨v207, ee208⟩ : ∃ z : Int32, f179 19 = z := ⟨_, rfl⟩
      have b209 : Bd v207 (0) (40) := (by rw [← ee208]; exact b181.2.2.2.2.2.2.2 19 (by decide))
      have q210 : elm (S177 7) 19 = v207.toInt := (elm_of c180 19).trans (congrArg Int32.toInt (ee208))
      obtain ⟨v211, ee212⟩ : ∃ z : Int32, f179 0 = z := ⟨_, rfl⟩
      have b213 : Bd v211 (0) (12) := (by rw [← ee212]; exact b181.1 0 (by decide))
      have q214 : elm (S177 7) 0 = v211.toInt := (elm_of c180 0).trans (congrArg Int32.toInt (ee212))
      obtain ⟨v215, ee216⟩ : ∃ z : Int32, f179 1 = z := ⟨_, rfl⟩
      have b217 : Bd v215 (0) (12) := (by rw [← ee216]; exact b181.2.1 1 (by decide))
      have q218 : elm (S177 7) 1 = v215.toInt := (elm_of c180 1).trans (congrArg Int32.toInt (ee216))
      obtain ⟨v219, ee220⟩ : ∃ z : Int32, f179 3 = z := ⟨_, rfl⟩
      have b221 : Bd v219 (0) (12) := (by rw [← ee220]; exact b181.2.2.2.1 3 (by decide))
      have q222 : elm (S177 7) 3 = v219.toInt := (elm_of c180 3).trans (congrArg Int32.toInt (ee220))
      obtain ⟨v223, ee224⟩ : ∃ z : Int32, f179 6 = z := ⟨_, rfl⟩
      have b225 : Bd v223 (0) (8) := (by rw [← ee224]; exact b181.2.2.2.2.1 6 (by decide))
      have q226 : elm (S177 7) 6 = v223.toInt := (elm_of c180 6).trans (congrArg Int32.toInt (ee224))
      obtain ⟨v227, ee228⟩ : ∃ z : Int32, f179 8 = z := ⟨_, rfl⟩
      have b229 : Bd v227 (0) (3) := (by rw [← ee228]; exact b181.2.2.2.2.2.2.1 8 (by decide))
      have q230 : elm (S177 7) 8 = v227.toInt := (elm_of c180 8).trans (congrArg Int32.toInt (ee228))
      obtain ⟨v231, ee232⟩ : ∃ z : Int32, f179 9 = z := ⟨_, rfl⟩
      have b233 : Bd v231 (0) (40) := (by rw [← ee232]; exact b181.2.2.2.2.2.2.2 9 (by decide))
      have q234 : elm (S177 7) 9 = v231.toInt := (elm_of c180 9).trans (congrArg Int32.toInt (ee232))
      have q235 : elm (S153 7) 20 = v46.toInt := (elm_of c175 20).trans (congrArg Int32.toInt (ee47))
      obtain ⟨v236, ee237⟩ : ∃ z : Int32, f179 20 = z := ⟨_, rfl⟩
      have b238 : Bd v236 (0) (12) := (by rw [← ee237]; exact b181.1 20 (by decide))
      have q239 : elm (S177 7) 20 = v236.toInt := (elm_of c180 20).trans (congrArg Int32.toInt (ee237))
      have q240 : elm (S153 7) 21 = v43.toInt := (elm_of c175 21).trans (congrArg Int32.toInt (ee44))
      obtain ⟨v241, ee242⟩ : ∃ z : Int32, f179 21 = z := ⟨_, rfl⟩
      have b243 : Bd v241 (0) (12) := (by rw [← ee242]; exact b181.2.1 21 (by decide))
      have q244 : elm (S177 7) 21 = v241.toInt := (elm_of c180 21).trans (congrArg Int32.toInt (ee242))
      have q245 : elm (S153 7) 23 = v49.toInt := (elm_of c175 23).trans (congrArg Int32.toInt (ee50))
      obtain ⟨v246, ee247⟩ : ∃ z : Int32, f179 23 = z := ⟨_, rfl⟩
      have b248 : Bd v246 (0) (12) := (by rw [← ee247]; exact b181.2.2.2.1 23 (by decide))
      have q249 : elm (S177 7) 23 = v246.toInt := (elm_of c180 23).trans (congrArg Int32.toInt (ee247))
      have q250 : elm (S153 7) 26 = v52.toInt := (elm_of c175 26).trans (congrArg Int32.toInt (ee53))
      obtain ⟨v251, ee252⟩ : ∃ z : Int32, f179 26 = z := ⟨_, rfl⟩
      have b253 : Bd v251 (0) (8) := (by rw [← ee252]; exact b181.2.2.2.2.1 26 (by decide))
      have q254 : elm (S177 7) 26 = v251.toInt := (elm_of c180 26).trans (congrArg Int32.toInt (ee252))
      have q255 : elm (S153 7) 28 = v55.toInt := (elm_of c175 28).trans (congrArg Int32.toInt (ee56))
      obtain ⟨v256, ee257⟩ : ∃ z : Int32, f179 28 = z := ⟨_, rfl⟩
      have b258 : Bd v256 (0) (3) := (by rw [← ee257]; exact b181.2.2.2.2.2.2.1 28 (by decide))
      have q259 : elm (S177 7) 28 = v256.toInt := (elm_of c180 28).trans (congrArg Int32.toInt (ee257))
      have q260 : elm (S153 7) 29 = v115.toInt := (elm_of c175 29).trans (congrArg Int32.toInt (ee116))
      obtain ⟨v261, ee262⟩ : ∃ z : Int32, f179 29 = z := ⟨_, rfl⟩
      have b263 : Bd v261 (0) (40) := (by rw [← ee262]; exact b181.2.2.2.2.2.2.2 29 (by decide))
      have q264 : elm (S177 7) 29 = v261.toInt := (elm_of c180 29).trans (congrArg Int32.toInt (ee262))
      have q265 : elm (S153 7) 30 = v64.toInt := (elm_of c175 30).trans (congrArg Int32.toInt (ee65))
      obtain ⟨v266, ee267⟩ : ∃ z : Int32, f179 30 = z := ⟨_, rfl⟩
      have b268 : Bd v266 (0) (12) := (by rw [← ee267]; exact b181.1 30 (by decide))
      have q269 : elm (S177 7) 30 = v266.toInt := (elm_of c180 30).trans (congrArg Int32.toInt (ee267))
      have q270 : elm (S153 7) 31 = v61.toInt := (elm_of c175 31).trans (congrArg Int32.toInt (ee62))
      obtain ⟨v271, ee272⟩ : ∃ z : Int32, f179 31 = z := ⟨_, rfl⟩
      have b273 : Bd v271 (0) (12) := (by rw [← ee272]; exact b181.2.1 31 (by decide))
      have q274 : elm (S177 7) 31 = v271.toInt := (elm_of c180 31).trans (congrArg Int32.toInt (ee272))
      have q275 : elm (S153 7) 33 = v67.toInt := (elm_of c175 33).trans (congrArg Int32.toInt (ee68))
      obtain ⟨v276, ee277⟩ : ∃ z : Int32, f179 33 = z := ⟨_, rfl⟩
      have b278 : Bd v276 (0) (12) := (by rw [← ee277]; exact b181.2.2.2.1 33 (by decide))
      have q279 : elm (S177 7) 33 = v276.toInt := (elm_of c180 33).trans (congrArg Int32.toInt (ee277))
      have q280 : elm (S153 7) 36 = v70.toInt := (elm_of c175 36).trans (congrArg Int32.toInt (ee71))
      obtain ⟨v281, ee282⟩ : ∃ z : Int32, f179 36 = z := ⟨_, rfl⟩
      have b283 : Bd v281 (0) (8) := (by rw [← ee282]; exact b181.2.2.2.2.1 36 (by decide))
      have q284 : elm (S177 7) 36 = v281.toInt := (elm_of c180 36).trans (congrArg Int32.toInt (ee282))
      have q285 : elm (S153 7) 38 = v73.toInt := (elm_of c175 38).trans (congrArg Int32.toInt (ee74))
      obtain ⟨v286, ee287⟩ : ∃ z : Int32, f179 38 = z := ⟨_, rfl⟩
      have b288 : Bd v286 (0) (3) := (by rw [← ee287]; exact b181.2.2.2.2.2.2.1 38 (by decide))
      have q289 : elm (S177 7) 38 = v286.toInt := (elm_of c180 38).trans (congrArg Int32.toInt (ee287))
      have q290 : elm (S153 7) 39 = v118.toInt := (elm_of c175 39).trans (congrArg Int32.toInt (ee119))
      obtain ⟨v291, ee292⟩ : ∃ z : Int32, f179 39 = z := ⟨_, rfl⟩
      have b293 : Bd v291 (0) (40) := (by rw [← ee292]; exact b181.2.2.2.2.2.2.2 39 (by decide))
      have q294 : elm (S177 7) 39 = v291.toInt := (elm_of c180 39).trans (congrArg Int32.toInt (ee292))
      have q295 : elm (S153 6) 0 = v22.toInt := (elm_of c176 0).trans (congrArg Int32.toInt (ee23))
      obtain ⟨f296, c297, b298⟩ := invM_6 hI
      obtain ⟨v299, ee300⟩ : ∃ z : Int32, f296 1 = z := ⟨_, rfl⟩
      have b301 : Bd v299 (0) (40000) := (by rw [← ee300]; exact b298 1)
      have q302 : elm (S177 6) 1 = v299.toInt := (elm_of c297 1).trans (congrArg Int32.toInt (ee300))
      obtain ⟨v303, ee304⟩ : ∃ z : Int32, f296 0 = z := ⟨_, rfl⟩
      have b305 : Bd v303 (0) (40000) := (by rw [← ee304]; exact b298 0)
      have q306 : elm (S177 6) 0 = v303.toInt := (elm_of c297 0).trans (congrArg Int32.toInt (ee304))
      have q307 : elm (S153 6) 2 = v58.toInt := (elm_of c176 2).trans (congrArg Int32.toInt (ee59))
      obtain ⟨v308, ee309⟩ : ∃ z : Int32, f296 2 = z := ⟨_, rfl⟩
      have b310 : Bd v308 (0) (40000) := (by rw [← ee309]; exact b298 2)
      have q311 : elm (S177 6) 2 = v308.toInt := (elm_of c297 2).trans (congrArg Int32.toInt (ee309))
      have q312 : elm (S153 6) 3 = v76.toInt := (elm_of c176 3).trans (congrArg Int32.toInt (ee77))
      obtain ⟨v313, ee314⟩ : ∃ z : Int32, f296 3 = z := ⟨_, rfl⟩
      have b315 : Bd v313 (0) (40000) := (by rw [← ee314]; exact b298 3)
      have q316 : elm (S177 6) 3 = v313.toInt := (elm_of c297 3).trans (congrArg Int32.toInt (ee314))
      refine lv_aload_n hx hb dX12_image_28 rfl (lv_at hl 0 rfl) ?_
      have c317 : S177 0 = .inr (12, [.int 0, .ref (ad 1), .ref (ad 2), .ref (ad 3), .ref (ad 4), .ref (ad 5), .int v125, .int v127, .int v129, .int v131, .int v132, .long w133, .int v134, .int v136, .int v137, .int v138, .ref (ad 6), .ref (ad 7), .ref (ad 8), .ref (ad 9), .ref (ad 10), .ref (ad 11), .ref (ad 12), .ref (ad 13), .ref (ad 14), .ref (ad 15), .int v139, .int v141, .ref (ad 16), .int v143, .int v145, .int v147, .int v149, .int v150, .ref (ad 17), .ref (ad 18), .int v151, .ref (ad 19)]) := ((o177 0 (by decide)).trans c154)
      refine xget E hQ 0 (by decide) c317 rfl 23 (by decide) q1491 rfl dX12_image_29 ?_
      refine lv_iload_n hx hb dX12_image_32 rfl (lv_at hl 1 rfl) ?_
      refine lv_iconst (v := 1) hx hb dX12_image_33 (by decide) ?_
      have c318 : S177 13 = .inl (g.2 3, 3, .inl f121) := ((o177 13 (by decide)).trans (up_ne eS153 (by decide) c122))
      refine xzast E hs hQ 13 (by decide) c318 (ib_in b167 (by decide) (by decide)) dX12_image_34 (fun H locs S319 eS319 hQ => ?_)
      have hI := invM_up_13 hI eS319 ⟨_, rfl, upd_b b123 (nar_z _)⟩
      have b321 : ∀ j, Bd ((upd f121 (a1 : Int32).toNatClampNeg (vp_nar .boolean 1)) j) (0) (1) := upd_b b123 (nar_z _)
      have c320 : S319 13 = .inl (g.2 3, 3, .inl (upd f121 (a1 : Int32).toNatClampNeg (vp_nar .boolean 1))) := up_at eS319 rfl
      refine lv_iconst (v := 0) hx hb dX12_image_35 (by decide) ?_
      have c322 : S319 7 = .inl (g.2 0, 50, .inl f179) := (up_ne eS319 (by decide) c180)
      have q323 : elm (S319 7) 1 = v215.toInt := (elm_of c322 1).trans (congrArg Int32.toInt (ee216))
      have q324 : elm (S319 7) 0 = v211.toInt := (elm_of c322 0).trans (congrArg Int32.toInt (ee212))
      have q325 : elm (S319 7) 3 = v219.toInt := (elm_of c322 3).trans (congrArg Int32.toInt (ee220))
      have q326 : elm (S319 7) 6 = v223.toInt := (elm_of c322 6).trans (congrArg Int32.toInt (ee224))
      have q327 : elm (S319 7) 8 = v227.toInt := (elm_of c322 8).trans (congrArg Int32.toInt (ee228))
      have c328 : S319 6 = .inl (g.2 0, 5, .inl f296) := (up_ne eS319 (by decide) c297)
      have q329 : elm (S319 6) 0 = v303.toInt := (elm_of c328 0).trans (congrArg Int32.toInt (ee304))
      have q330 : elm (S319 7) 11 = v187.toInt := (elm_of c322 11).trans (congrArg Int32.toInt (ee188))
      have q331 : elm (S319 7) 10 = v182.toInt := (elm_of c322 10).trans (congrArg Int32.toInt (ee183))
      have q332 : elm (S319 7) 13 = v192.toInt := (elm_of c322 13).trans (congrArg Int32.toInt (ee193))
      have q333 : elm (S319 7) 16 = v197.toInt := (elm_of c322 16).trans (congrArg Int32.toInt (ee198))
      have q334 : elm (S319 7) 18 = v202.toInt := (elm_of c322 18).trans (congrArg Int32.toInt (ee203))
      have q335 : elm (S319 6) 1 = v299.toInt := (elm_of c328 1).trans (congrArg Int32.toInt (ee300))
      have q336 : elm (S319 7) 21 = v241.toInt := (elm_of c322 21).trans (congrArg Int32.toInt (ee242))
      have q337 : elm (S319 7) 20 = v236.toInt := (elm_of c322 20).trans (congrArg Int32.toInt (ee237))
      have q338 : elm (S319 7) 23 = v246.toInt := (elm_of c322 23).trans (congrArg Int32.toInt (ee247))
      have q339 : elm (S319 7) 26 = v251.toInt := (elm_of c322 26).trans (congrArg Int32.toInt (ee252))
      have q340 : elm (S319 7) 28 = v256.toInt := (elm_of c322 28).trans (congrArg Int32.toInt (ee257))
      have q341 : elm (S319 6) 2 = v308.toInt := (elm_of c328 2).trans (congrArg Int32.toInt (ee309))
      have q342 : elm (S319 7) 31 = v271.toInt := (elm_of c322 31).trans (congrArg Int32.toInt (ee272))
      have q343 : elm (S319 7) 30 = v266.toInt := (elm_of c322 30).trans (congrArg Int32.toInt (ee267))
      have q344 : elm (S319 7) 33 = v276.toInt := (elm_of c322 33).trans (congrArg Int32.toInt (ee277))
      have q345 : elm (S319 7) 36 = v281.toInt := (elm_of c322 36).trans (congrArg Int32.toInt (ee282))
      have q346 : elm (S319 7) 38 = v286.toInt := (elm_of c322 38).trans (congrArg Int32.toInt (ee287))
      have q347 : elm (S319 6) 3 = v313.toInt := (elm_of c328 3).trans (congrArg Int32.toInt (ee314))
      exact xri E hr hlk hQ (⟨hI, (up_o (o_trans (up_o o_refl eS153 (by decide)) o177 (by decide)) eS319 (by decide)), (ib_wk (by decide : Bd 0 (0) (0)) (by decide) (by decide)), (by omega), (by omega), (by omega), (by omega), (by omega), (by omega), (by omega), (by omega), (by omega), (by omega), (by omega), (by omega), (by omega), (by omega), (by omega), (by omega), (by omega), (by omega), (by omega), (by omega), (at_tr u177_0 (up_eq (j := 7) eS319 (by decide)) (up_eq (j := 12) eS319 (by decide))), (at_tr u177_1 (up_eq (j := 7) eS319 (by decide)) (up_eq (j := 12) eS319 (by decide))), (at_tr u177_2 (up_eq (j := 7) eS319 (by decide)) (up_eq (j := 12) eS319 (by decide))), (at_tr u177_3 (up_eq (j := 7) eS319 (by decide)) (up_eq (j := 12) eS319 (by decide))), (ht_tr u177_4 (up_eq (j := 7) eS319 (by decide)) (up_eq (j := 9) eS319 (by decide))), (ht_tr u177_5 (up_eq (j := 7) eS319 (by decide)) (up_eq (j := 9) eS319 (by decide))), (ht_tr u177_6 (up_eq (j := 7) eS319 (by decide)) (up_eq (j := 9) eS319 (by decide))), (ht_tr u177_7 (up_eq (j := 7) eS319 (by decide)) (up_eq (j := 9) eS319 (by decide))), (by have h1 := u161_0; unfold InP at h1; unfold ansImage; rw [if_neg (by omega)]), (pu_st c122 c320 (by omega) (by decide))⟩) dX12_image_36
    · subst h172
      have q348 : (0 : Int32).toInt = 0 := by decide
      have q349 : (2 : Int32).toInt = 2 := by decide
      have c350 : S153 7 = .inl (g.2 0, 50, .inl f1) := (up_ne eS153 (by decide) c2)
      have c351 : S153 6 = .inl (g.2 0, 5, .inl f19) := (up_ne eS153 (by decide) c20)
      refine xcVv E hs hQ hml hl.1 0 (gX12_copyShore_0_2 l g ad hD S153 hI (at_tr hAT0 (up_eq (j := 7) eS153 (by decide)) (up_eq (j := 12) eS153 (by decide))) (at_tr hAT1 (up_eq (j := 7) eS153 (by decide)) (up_eq (j := 12) eS153 (by decide))) (at_tr hAT2 (up_eq (j := 7) eS153 (by decide)) (up_eq (j := 12) eS153 (by decide))) (at_tr hAT3 (up_eq (j := 7) eS153 (by decide)) (up_eq (j := 12) eS153 (by decide))) (ht_tr hHT0 (up_eq (j := 7) eS153 (by decide)) (up_eq (j := 9) eS153 (by decide))) (ht_tr hHT1 (up_eq (j := 7) eS153 (by decide)) (up_eq (j := 9) eS153 (by decide))) (ht_tr hHT2 (up_eq (j := 7) eS153 (by decide)) (up_eq (j := 9) eS153 (by decide))) (ht_tr hHT3 (up_eq (j := 7) eS153 (by decide)) (up_eq (j := 9) eS153 (by decide)))) mX12_copyShore q1739 (by decide) c154 rfl rfl ⟨(Nat.le_of_ble_eq_true rfl), (Nat.le_of_ble_eq_true rfl)⟩ ⟨(Nat.le_of_ble_eq_true rfl), (Nat.le_of_ble_eq_true rfl)⟩ (Nat.le_of_ble_eq_true rfl) rfl dX12_image_25 (fun S352 H locs hp352 hQ _ => ?_)
      obtain ⟨hI, o352, g352_0, g352_1, g352_2, g352_3, g352_4, g352_5, g352_6, g352_7, g352_8, g352_9, g352_10, g352_11, g352_12, g352_13, g352_14, g352_15, g352_16, g352_17, g352_18, g352_19, g352_20, g352_21, g352_22, g352_23, g352_24, g352_25, g352_26, g352_27, u352_0, u352_1, u352_2, u352_3, u352_4, u352_5, u352_6, u352_7⟩ := hp352
      have q353 : elm (S153 7) 0 = v7.toInt := (elm_of c350 0).trans (congrArg Int32.toInt (ee8))
      obtain ⟨f354, c355, b356⟩ := invM_7 hI
      obtain ⟨v357, ee358⟩ : ∃ z : Int32, f354 20 = z := ⟨_, rfl⟩
      have b359 : Bd v357 (0) (12) := (by rw [← ee358]; exact b356.1 20 (by decide))
      have q360 : elm (S352 7) 20 = v357.toInt := (elm_of c355 20).trans (congrArg Int32.toInt (ee358))
      have q361 : elm (S153 7) 1 = v4.toInt := (elm_of c350 1).trans (congrArg Int32.toInt (ee5))
      obtain ⟨v362, ee363⟩ : ∃ z : Int32, f354 21 = z := ⟨_, rfl⟩
      have b364 : Bd v362 (0) (12) := (by rw [← ee363]; exact b356.2.1 21 (by decide))
      have q365 : elm (S352 7) 21 = v362.toInt := (elm_of c355 21).trans (congrArg Int32.toInt (ee363))
      have q366 : elm (S153 7) 3 = v10.toInt := (elm_of c350 3).trans (congrArg Int32.toInt (ee11))
      obtain ⟨v367, ee368⟩ : ∃ z : Int32, f354 23 = z := ⟨_, rfl⟩
      have b369 : Bd v367 (0) (12) := (by rw [← ee368]; exact b356.2.2.2.1 23 (by decide))
      have q370 : elm (S352 7) 23 = v367.toInt := (elm_of c355 23).trans (congrArg Int32.toInt (ee368))
      have q371 : elm (S153 7) 6 = v13.toInt := (elm_of c350 6).trans (congrArg Int32.toInt (ee14))
      obtain ⟨v372, ee373⟩ : ∃ z : Int32, f354 26 = z := ⟨_, rfl⟩
      have b374 : Bd v372 (0) (8) := (by rw [← ee373]; exact b356.2.2.2.2.1 26 (by decide))
      have q375 : elm (S352 7) 26 = v372.toInt := (elm_of c355 26).trans (congrArg Int32.toInt (ee373))
      have q376 : elm (S153 7) 8 = v16.toInt := (elm_of c350 8).trans (congrArg Int32.toInt (ee17))
      obtain ⟨v377, ee378⟩ : ∃ z : Int32, f354 28 = z := ⟨_, rfl⟩
      have b379 : Bd v377 (0) (3) := (by rw [← ee378]; exact b356.2.2.2.2.2.2.1 28 (by decide))
      have q380 : elm (S352 7) 28 = v377.toInt := (elm_of c355 28).trans (congrArg Int32.toInt (ee378))
      have q381 : elm (S153 7) 9 = v109.toInt := (elm_of c350 9).trans (congrArg Int32.toInt (ee110))
      obtain ⟨v382, ee383⟩ : ∃ z : Int32, f354 29 = z := ⟨_, rfl⟩
      have b384 : Bd v382 (0) (40) := (by rw [← ee383]; exact b356.2.2.2.2.2.2.2 29 (by decide))
      have q385 : elm (S352 7) 29 = v382.toInt := (elm_of c355 29).trans (congrArg Int32.toInt (ee383))
      obtain ⟨v386, ee387⟩ : ∃ z : Int32, f354 0 = z := ⟨_, rfl⟩
      have b388 : Bd v386 (0) (12) := (by rw [← ee387]; exact b356.1 0 (by decide))
      have q389 : elm (S352 7) 0 = v386.toInt := (elm_of c355 0).trans (congrArg Int32.toInt (ee387))
      obtain ⟨v390, ee391⟩ : ∃ z : Int32, f354 1 = z := ⟨_, rfl⟩
      have b392 : Bd v390 (0) (12) := (by rw [← ee391]; exact b356.2.1 1 (by decide))
      have q393 : elm (S352 7) 1 = v390.toInt := (elm_of c355 1).trans (congrArg Int32.toInt (ee391))
      obtain ⟨v394, ee395⟩ : ∃ z : Int32, f354 3 = z := ⟨_, rfl⟩
      have b396 : Bd v394 (0) (12) := (by rw [← ee395]; exact b356.2.2.2.1 3 (by decide))
      have q397 : elm (S352 7) 3 = v394.toInt := (elm_of c355 3).trans (congrArg Int32.toInt (ee395))
      obtain ⟨v398, ee399⟩ : ∃ z : Int32, f354 6 = z := ⟨_, rfl⟩
      have b400 : Bd v398 (0) (8) := (by rw [← ee399]; exact b356.2.2.2.2.1 6 (by decide))
      have q401 : elm (S352 7) 6 = v398.toInt := (elm_of c355 6).trans (congrArg Int32.toInt (ee399))
      obtain ⟨v402, ee403⟩ : ∃ z : Int32, f354 8 = z := ⟨_, rfl⟩
      have b404 : Bd v402 (0) (3) := (by rw [← ee403]; exact b356.2.2.2.2.2.2.1 8 (by decide))
      have q405 : elm (S352 7) 8 = v402.toInt := (elm_of c355 8).trans (congrArg Int32.toInt (ee403))
      obtain ⟨v406, ee407⟩ : ∃ z : Int32, f354 9 = z := ⟨_, rfl⟩
      have b408 : Bd v406 (0) (40) := (by rw [← ee407]; exact b356.2.2.2.2.2.2.2 9 (by decide))
      have q409 : elm (S352 7) 9 = v406.toInt := (elm_of c355 9).trans (congrArg Int32.toInt (ee407))
      have q410 : elm (S153 7) 10 = v28.toInt := (elm_of c350 10).trans (congrArg Int32.toInt (ee29))
      obtain ⟨v411, ee412⟩ : ∃ z : Int32, f354 10 = z := ⟨_, rfl⟩
      have b413 : Bd v411 (0) (12) := (by rw [← ee412]; exact b356.1 10 (by decide))
      have q414 : elm (S352 7) 10 = v411.toInt := (elm_of c355 10).trans (congrArg Int32.toInt (ee412))
      have q415 : elm (S153 7) 11 = v25.toInt := (elm_of c350 11).trans (congrArg Int32.toInt (ee26))
      obtain ⟨v416, ee417⟩ : ∃ z : Int32, f354 11 = z := ⟨_, rfl⟩
      have b418 : Bd v416 (0) (12) := (by rw [← ee417]; exact b356.2.1 11 (by decide))
      have q419 : elm (S352 7) 11 = v416.toInt := (elm_of c355 11).trans (congrArg Int32.toInt (ee417))
      have q420 : elm (S153 7) 13 = v31.toInt := (elm_of c350 13).trans (congrArg Int32.toInt (ee32))
      obtain ⟨v421, ee422⟩ : ∃ z : Int32, f354 13 = z := ⟨_, rfl⟩
      have b423 : Bd v421 (0) (12) := (by rw [← ee422]; exact b356.2.2.2.1 13 (by decide))
      have q424 : elm (S352 7) 13 = v421.toInt := (elm_of c355 13).trans (congrArg Int32.toInt (ee422))
      have q425 : elm (S153 7) 16 = v34.toInt := (elm_of c350 16).trans (congrArg Int32.toInt (ee35))
      obtain ⟨v426, ee427⟩ : ∃ z : Int32, f354 16 = z := ⟨_, rfl⟩
      have b428 : Bd v426 (0) (8) := (by rw [← ee427]; exact b356.2.2.2.2.1 16 (by decide))
      have q429 : elm (S352 7) 16 = v426.toInt := (elm_of c355 16).trans (congrArg Int32.toInt (ee427))
      have q430 : elm (S153 7) 18 = v37.toInt := (elm_of c350 18).trans (congrArg Int32.toInt (ee38))
      obtain ⟨v431, ee432⟩ : ∃ z : Int32, f354 18 = z := ⟨_, rfl⟩
      have b433 : Bd v431 (0) (3) := (by rw [← ee432]; exact b356.2.2.2.2.2.2.1 18 (by decide))
      have q434 : elm (S352 7) 18 = v431.toInt := (elm_of c355 18).trans (congrArg Int32.toInt (ee432))
      have q435 : elm (S153 7) 19 = v112.toInt := (elm_of c350 19).trans (congrArg Int32.toInt (ee113))
      obtain ⟨v436, ee437⟩ : ∃ z : Int32, f354 19 = z := ⟨_, rfl⟩
      have b438 : Bd v436 (0) (40) := (by rw [← ee437]; exact b356.2.2.2.2.2.2.2 19 (by decide))
      have q439 : elm (S352 7) 19 = v436.toInt := (elm_of c355 19).trans (congrArg Int32.toInt (ee437))
      have q440 : elm (S153 7) 30 = v64.toInt := (elm_of c350 30).trans (congrArg Int32.toInt (ee65))
      obtain ⟨v441, ee442⟩ : ∃ z : Int32, f354 30 = z := ⟨_, rfl⟩
      have b443 : Bd v441 (0) (12) := (by rw [← ee442]; exact b356.1 30 (by decide))
      have q444 : elm (S352 7) 30 = v441.toInt := (elm_of c355 30).trans (congrArg Int32.toInt (ee442))
      have q445 : elm (S153 7) 31 = v61.toInt := (elm_of c350 31).trans (congrArg Int32.toInt (ee62))
      obtain ⟨v446, ee447⟩ : ∃ z : Int32, f354 31 = z := ⟨_, rfl⟩
      have b448 : Bd v446 (0) (12) := (by rw [← ee447]; exact b356.2.1 31 (by decide))
      have q449 : elm (S352 7) 31 = v446.toInt := (elm_of c355 31).trans (congrArg Int32.toInt (ee447))
      have q450 : elm (S153 7) 33 = v67.toInt := (elm_of c350 33).trans (congrArg Int32.toInt (ee68))
      obtain ⟨v451, ee452⟩ : ∃ z : Int32, f354 33 = z := ⟨_, rfl⟩
      have b453 : Bd v451 (0) (12) := (by rw [← ee452]; exact b356.2.2.2.1 33 (by decide))
      have q454 : elm (S352 7) 33 = v451.toInt := (elm_of c355 33).trans (congrArg Int32.toInt (ee452))
      have q455 : elm (S153 7) 36 = v70.toInt := (elm_of c350 36).trans (congrArg Int32.toInt (ee71))
      obtain ⟨v456, ee457⟩ : ∃ z : Int32, f354 36 = z := ⟨_, rfl⟩
      have b458 : Bd v456 (0) (8) := (by rw [← ee457]; exact b356.2.2.2.2.1 36 (by decide))
      have q459 : elm (S352 7) 36 = v456.toInt := (elm_of c355 36).trans (congrArg Int32.toInt (ee457))
      have q460 : elm (S153 7) 38 = v73.toInt := (elm_of c350 38).trans (congrArg Int32.toInt (ee74))
      obtain ⟨v461, ee462⟩ : ∃ z : Int32, f354 38 = z := ⟨_, rfl⟩
      have b463 : Bd v461 (0) (3) := (by rw [← ee462]; exact b356.2.2.2.2.2.2.1 38 (by decide))
      have q464 : elm (S352 7) 38 = v461.toInt := (elm_of c355 38).trans (congrArg Int32.toInt (ee462))
      have q465 : elm (S153 7) 39 = v118.toInt := (elm_of c350 39).trans (congrArg Int32.toInt (ee119))
      obtain ⟨v466, ee467⟩ : ∃ z : Int32, f354 39 = z := ⟨_, rfl⟩
      have b468 : Bd v466 (0) (40) := (by rw [← ee467]; exact b356.2.2.2.2.2.2.2 39 (by decide))
      have q469 : elm (S352 7) 39 = v466.toInt := (elm_of c355 39).trans (congrArg Int32.toInt (ee467))
      have q470 : elm (S153 6) 0 = v22.toInt := (elm_of c351 0).trans (congrArg Int32.toInt (ee23))
      obtain ⟨f471, c472, b473⟩ := invM_6 hI
      obtain ⟨v474, ee475⟩ : ∃ z : Int32, f471 2 = z := ⟨_, rfl⟩
      have b476 : Bd v474 (0) (40000) := (by rw [← ee475]; exact b473 2)
      have q477 : elm (S352 6) 2 = v474.toInt := (elm_of c472 2).trans (congrArg Int32.toInt (ee475))
      obtain ⟨v478, ee479⟩ : ∃ z : Int32, f471 0 = z := ⟨_, rfl⟩
      have b480 : Bd v478 (0) (40000) := (by rw [← ee479]; exact b473 0)
      have q481 : elm (S352 6) 0 = v478.toInt := (elm_of c472 0).trans (congrArg Int32.toInt (ee479))
      have q482 : elm (S153 6) 1 = v40.toInt := (elm_of c351 1).trans (congrArg Int32.toInt (ee41))
      obtain ⟨v483, ee484⟩ : ∃ z : Int32, f471 1 = z := ⟨_, rfl⟩
      have b485 : Bd v483 (0) (40000) := (by rw [← ee484]; exact b473 1)
      have q486 : elm (S352 6) 1 = v483.toInt := (elm_of c472 1).trans (congrArg Int32.toInt (ee484))
      have q487 : elm (S153 6) 3 = v76.toInt := (elm_of c351 3).trans (congrArg Int32.toInt (ee77))
      obtain ⟨v488, ee489⟩ : ∃ z : Int32, f471 3 = z := ⟨_, rfl⟩
      have b490 : Bd v488 (0) (40000) := (by rw [← ee489]; exact b473 3)
      have q491 : elm (S352 6) 3 = v488.toInt := (elm_of c472 3).trans (congrArg Int32.toInt (ee489))
      refine lv_aload_n hx hb dX12_image_28 rfl (lv_at hl 0 rfl) ?_
      have c492 : S352 0 = .inr (12, [.int 0, .ref (ad 1), .ref (ad 2), .ref (ad 3), .ref (ad 4), .ref (ad 5), .int v125, .int v127, .int v129, .int v131, .int v132, .long w133, .int v134, .int v136, .int v137, .int v138, .ref (ad 6), .ref (ad 7), .ref (ad 8), .ref (ad 9), .ref (ad 10), .ref (ad 11), .ref (ad 12), .ref (ad 13), .ref (ad 14), .ref (ad 15), .int v139, .int v141, .ref (ad 16), .int v143, .int v145, .int v147, .int v149, .int v150, .ref (ad 17), .ref (ad 18), .int v151, .ref (ad 19)]) := ((o352 0 (by decide)).trans c154)
      refine xget E hQ 0 (by decide) c492 rfl 23 (by decide) q1491 rfl dX12_image_29 ?_
      refine lv_iload_n hx hb dX12_image_32 rfl (lv_at hl 1 rfl) ?_
      refine lv_iconst (v := 1) hx hb dX12_image_33 (by decide) ?_
      have c493 : S352 13 = .inl (g.2 3, 3, .inl f121) := ((o352 13 (by decide)).trans (up_ne eS153 (by decide) c122))
      refine xzast E hs hQ 13 (by decide) c493 (ib_in b167 (by decide) (by decide)) dX12_image_34 (fun H locs S494 eS494 hQ => ?_)
      have hI := invM_up_13 hI eS494 ⟨_, rfl, upd_b b123 (nar_z _)⟩
      have b496 : ∀ j, Bd ((upd f121 (a1 : Int32).toNatClampNeg (vp_nar .boolean 1)) j) (0) (1) := upd_b b123 (nar_z _)
      have c495 : S494 13 = .inl (g.2 3, 3, .inl (upd f121 (a1 : Int32).toNatClampNeg (vp_nar .boolean 1))) := up_at eS494 rfl
      refine lv_iconst (v := 0) hx hb dX12_image_35 (by decide) ?_
      have c497 : S494 7 = .inl (g.2 0, 50, .inl f354) := (up_ne eS494 (by decide) c355)
      have q498 : elm (S494 7) 1 = v390.toInt := (elm_of c497 1).trans (congrArg Int32.toInt (ee391))
      have q499 : elm (S494 7) 0 = v386.toInt := (elm_of c497 0).trans (congrArg Int32.toInt (ee387))
      have q500 : elm (S494 7) 3 = v394.toInt := (elm_of c497 3).trans (congrArg Int32.toInt (ee395))
      have q501 : elm (S494 7) 6 = v398.toInt := (elm_of c497 6).trans (congrArg Int32.toInt (ee399))
      have q502 : elm (S494 7) 8 = v402.toInt := (elm_of c497 8).trans (congrArg Int32.toInt (ee403))
      have c503 : S494 6 = .inl (g.2 0, 5, .inl f471) := (up_ne eS494 (by decide) c472)
      have q504 : elm (S494 6) 0 = v478.toInt := (elm_of c503 0).trans (congrArg Int32.toInt (ee479))
      have q505 : elm (S494 7) 11 = v416.toInt := (elm_of c497 11).trans (congrArg Int32.toInt (ee417))
      have q506 : elm (S494 7) 10 = v411.toInt := (elm_of c497 10).trans (congrArg Int32.toInt (ee412))
      have q507 : elm (S494 7) 13 = v421.toInt := (elm_of c497 13).trans (congrArg Int32.toInt (ee422))
      have q508 : elm (S494 7) 16 = v426.toInt := (elm_of c497 16).trans (congrArg Int32.toInt (ee427))
      have q509 : elm (S494 7) 18 = v431.toInt := (elm_of c497 18).trans (congrArg Int32.toInt (ee432))
      have q510 : elm (S494 6) 1 = v483.toInt := (elm_of c503 1).trans (congrArg Int32.toInt (ee484))
      have q511 : elm (S494 7) 21 = v362.toInt := (elm_of c497 21).trans (congrArg Int32.toInt (ee363))
      have q512 : elm (S494 7) 20 = v357.toInt := (elm_of c497 20).trans (congrArg Int32.toInt (ee358))
      have q513 : elm (S494 7) 23 = v367.toInt := (elm_of c497 23).trans (congrArg Int32.toInt (ee368))
      have q514 : elm (S494 7) 26 = v372.toInt := (elm_of c497 26).trans (congrArg Int32.toInt (ee373))
      have q515 : elm (S494 7) 28 = v377.toInt := (elm_of c497 28).trans (congrArg Int32.toInt (ee378))
      have q516 : elm (S494 6) 2 = v474.toInt := (elm_of c503 2).trans (congrArg Int32.toInt (ee475))
      have q517 : elm (S494 7) 31 = v446.toInt := (elm_of c497 31).trans (congrArg Int32.toInt (ee447))
      have q518 : elm (S494 7) 30 = v441.toInt := (elm_of c497 30).trans (congrArg Int32.toInt (ee442))
      have q519 : elm (S494 7) 33 = v451.toInt := (elm_of c497 33).trans (congrArg Int32.toInt (ee452))
      have q520 : elm (S494 7) 36 = v456.toInt := (elm_of c497 36).trans (congrArg Int32.toInt (ee457))
      have q521 : elm (S494 7) 38 = v461.toInt := (elm_of c497 38).trans (congrArg Int32.toInt (ee462))
      have q522 : elm (S494 6) 3 = v488.toInt := (elm_of c503 3).trans (congrArg Int32.toInt (ee489))
      exact xri E hr hlk hQ (⟨hI, (up_o (o_trans (up_o o_refl eS153 (by decide)) o352 (by decide)) eS494 (by decide)), (ib_wk (by decide : Bd 0 (0) (0)) (by decide) (by decide)), (by omega), (by omega), (by omega), (by omega), (by omega), (by omega), (by omega), (by omega), (by omega), (by omega), (by omega), (by omega), (by omega), (by omega), (by omega), (by omega), (by omega), (by omega), (by omega), (by omega), (at_tr u352_0 (up_eq (j := 7) eS494 (by decide)) (up_eq (j := 12) eS494 (by decide))), (at_tr u352_1 (up_eq (j := 7) eS494 (by decide)) (up_eq (j := 12) eS494 (by decide))), (at_tr u352_2 (up_eq (j := 7) eS494 (by decide)) (up_eq (j := 12) eS494 (by decide))), (at_tr u352_3 (up_eq (j := 7) eS494 (by decide)) (up_eq (j := 12) eS494 (by decide))), (ht_tr u352_4 (up_eq (j := 7) eS494 (by decide)) (up_eq (j := 9) eS494 (by decide))), (ht_tr u352_5 (up_eq (j := 7) eS494 (by decide)) (up_eq (j := 9) eS494 (by decide))), (ht_tr u352_6 (up_eq (j := 7) eS494 (by decide)) (up_eq (j := 9) eS494 (by decide))), (ht_tr u352_7 (up_eq (j := 7) eS494 (by decide)) (up_eq (j := 9) eS494 (by decide))), (by have h1 := u161_0; unfold InP at h1; unfold ansImage; rw [if_neg (by omega)]), (pu_st c122 c495 (by omega) (by decide))⟩) dX12_image_36
    · subst h172
      have q523 : (0 : Int32).toInt = 0 := by decide
      have q524 : (3 : Int32).toInt = 3 := by decide
      have c525 : S153 7 = .inl (g.2 0, 50, .inl f1) := (up_ne eS153 (by decide) c2)
      have c526 : S153 6 = .inl (g.2 0, 5, .inl f19) := (up_ne eS153 (by decide) c20)
      refine xcVv E hs hQ hml hl.1 0 (gX12_copyShore_0_3 l g ad hD S153 hI (at_tr hAT0 (up_eq (j := 7) eS153 (by decide)) (up_eq (j := 12) eS153 (by decide))) (at_tr hAT1 (up_eq (j := 7) eS153 (by decide)) (up_eq (j := 12) eS153 (by decide))) (at_tr hAT2 (up_eq (j := 7) eS153 (by decide)) (up_eq (j := 12) eS153 (by decide))) (at_tr hAT3 (up_eq (j := 7) eS153 (by decide)) (up_eq (j := 12) eS153 (by decide))) (ht_tr hHT0 (up_eq (j := 7) eS153 (by decide)) (up_eq (j := 9) eS153 (by decide))) (ht_tr hHT1 (up_eq (j := 7) eS153 (by decide)) (up_eq (j := 9) eS153 (by decide))) (ht_tr hHT2 (up_eq (j := 7) eS153 (by decide)) (up_eq (j := 9) eS153 (by decide))) (ht_tr hHT3 (up_eq (j := 7) eS153 (by decide)) (up_eq (j := 9) eS153 (by decide)))) mX12_copyShore q1739 (by decide) c154 rfl rfl ⟨(Nat.le_of_ble_eq_true rfl), (Nat.le_of_ble_eq_true rfl)⟩ ⟨(Nat.le_of_ble_eq_true rfl), (Nat.le_of_ble_eq_true rfl)⟩ (Nat.le_of_ble_eq_true rfl) rfl dX12_image_25 (fun S527 H locs hp527 hQ _ => ?_)
      obtain ⟨hI, o527, g527_0, g527_1, g527_2, g527_3, g527_4, g527_5, g527_6, g527_7, g527_8, g527_9, g527_10, g527_11, g527_12, g527_13, g527_14, g527_15, g527_16, g527_17, g527_18, g527_19, g527_20, g527_21, g527_22, g527_23, g527_24, g527_25, g527_26, g527_27, u527_0, u527_1, u527_2, u527_3, u527_4, u527_5, u527_6, u527_7⟩ := hp527
      have q528 : elm (S153 7) 0 = v7.toInt := (elm_of c525 0).trans (congrArg Int32.toInt (ee8))
      obtain ⟨f529, c530, b531⟩ := invM_7 hI
      obtain ⟨v532, ee533⟩ : ∃ z : Int32, f529 30 = z := ⟨_, rfl⟩
      have b534 : Bd v532 (0) (12) := (by rw [← ee533]; exact b531.1 30 (by decide))
      have q535 : elm (S527 7) 30 = v532.toInt := (elm_of c530 30).trans (congrArg Int32.toInt (ee533))
      have q536 : elm (S153 7) 1 = v4.toInt := (elm_of c525 1).trans (congrArg Int32.toInt (ee5))
      obtain ⟨v537, ee538⟩ : ∃ z : Int32, f529 31 = z := ⟨_, rfl⟩
      have b539 : Bd v537 (0) (12) := (by rw [← ee538]; exact b531.2.1 31 (by decide))
      have q540 : elm (S527 7) 31 = v537.toInt := (elm_of c530 31).trans (congrArg Int32.toInt (ee538))
      have q541 : elm (S153 7) 3 = v10.toInt := (elm_of c525 3).trans (congrArg Int32.toInt (ee11))
      obtain ⟨v542, ee543⟩ : ∃ z : Int32, f529 33 = z := ⟨_, rfl⟩
      have b544 : Bd v542 (0) (12) := (by rw [← ee543]; exact b531.2.2.2.1 33 (by decide))
      have q545 : elm (S527 7) 33 = v542.toInt := (elm_of c530 33).trans (congrArg Int32.toInt (ee543))
      have q546 : elm (S153 7) 6 = v13.toInt := (elm_of c525 6).trans (congrArg Int32.toInt (ee14))
      obtain ⟨v547, ee548⟩ : ∃ z : Int32, f529 36 = z := ⟨_, rfl⟩
      have b549 : Bd v547 (0) (8) := (by rw [← ee548]; exact b531.2.2.2.2.1 36 (by decide))
      have q550 : elm (S527 7) 36 = v547.toInt := (elm_of c530 36).trans (congrArg Int32.toInt (ee548))
      have q551 : elm (S153 7) 8 = v16.toInt := (elm_of c525 8).trans (congrArg Int32.toInt (ee17))
      obtain ⟨v552, ee553⟩ : ∃ z : Int32, f529 38 = z := ⟨_, rfl⟩
      have b554 : Bd v552 (0) (3) := (by rw [← ee553]; exact b531.2.2.2.2.2.2.1 38 (by decide))
      have q555 : elm (S527 7) 38 = v552.toInt := (elm_of c530 38).trans (congrArg Int32.toInt (ee553))
      have q556 : elm (S153 7) 9 = v109.toInt := (elm_of c525 9).trans (congrArg Int32.toInt (ee110))
      obtain ⟨v557, ee558⟩ : ∃ z : Int32, f529 39 = z := ⟨_, rfl⟩
      have b559 : Bd v557 (0) (40) := (by rw [← ee558]; exact b531.2.2.2.2.2.2.2 39 (by decide))
      have q560 : elm (S527 7) 39 = v557.toInt := (elm_of c530 39).trans (congrArg Int32.toInt (ee558))
      obtain ⟨v561, ee562⟩ : ∃ z : Int32, f529 0 = z := ⟨_, rfl⟩
      have b563 : Bd v561 (0) (12) := (by rw [← ee562]; exact b531.1 0 (by decide))
      have q564 : elm (S527 7) 0 = v561.toInt := (elm_of c530 0).trans (congrArg Int32.toInt (ee562))
      obtain ⟨v565, ee566⟩ : ∃ z : Int32, f529 1 = z := ⟨_, rfl⟩
      have b567 : Bd v565 (0) (12) := (by rw [← ee566]; exact b531.2.1 1 (by decide))
      have q568 : elm (S527 7) 1 = v565.toInt := (elm_of c530 1).trans (congrArg Int32.toInt (ee566))
      obtain ⟨v569, ee570⟩ : ∃ z : Int32, f529 3 = z := ⟨_, rfl⟩
      have b571 : Bd v569 (0) (12) := (by rw [← ee570]; exact b531.2.2.2.1 3 (by decide))
      have q572 : elm (S527 7) 3 = v569.toInt := (elm_of c530 3).trans (congrArg Int32.toInt (ee570))
      obtain ⟨v573, ee574⟩ : ∃ z : Int32, f529 6 = z := ⟨_, rfl⟩
      have b575 : Bd v573 (0) (8) := (by rw [← ee574]; exact b531.2.2.2.2.1 6 (by decide))
      have q576 : elm (S527 7) 6 = v573.toInt := (elm_of c530 6).trans (congrArg Int32.toInt (ee574))
      obtain ⟨v577, ee578⟩ : ∃ z : Int32, f529 8 = z := ⟨_, rfl⟩
      have b579 : Bd v577 (0) (3) := (by rw [← ee578]; exact b531.2.2.2.2.2.2.1 8 (by decide))
      have q580 : elm (S527 7) 8 = v577.toInt := (elm_of c530 8).trans (congrArg Int32.toInt (ee578))
      obtain ⟨v581, ee582⟩ : ∃ z : Int32, f529 9 = z := ⟨_, rfl⟩
      have b583 : Bd v581 (0) (40) := (by rw [← ee582]; exact b531.2.2.2.2.2.2.2 9 (by decide))
      have q584 : elm (S527 7) 9 = v581.toInt := (elm_of c530 9).trans (congrArg Int32.toInt (ee582))
      have q585 : elm (S153 7) 10 = v28.toInt := (elm_of c525 10).trans (congrArg Int32.toInt (ee29))
      obtain ⟨v586, ee587⟩ : ∃ z : Int32, f529 10 = z := ⟨_, rfl⟩
      have b588 : Bd v586 (0) (12) := (by rw [← ee587]; exact b531.1 10 (by decide))
      have q589 : elm (S527 7) 10 = v586.toInt := (elm_of c530 10).trans (congrArg Int32.toInt (ee587))
      have q590 : elm (S153 7) 11 = v25.toInt := (elm_of c525 11).trans (congrArg Int32.toInt (ee26))
      obtain ⟨v591, ee592⟩ : ∃ z : Int32, f529 11 = z := ⟨_, rfl⟩
      have b593 : Bd v591 (0) (12) := (by rw [← ee592]; exact b531.2.1 11 (by decide))
      have q594 : elm (S527 7) 11 = v591.toInt := (elm_of c530 11).trans (congrArg Int32.toInt (ee592))
      have q595 : elm (S153 7) 13 = v31.toInt := (elm_of c525 13).trans (congrArg Int32.toInt (ee32))
      obtain ⟨v596, ee597⟩ : ∃ z : Int32, f529 13 = z := ⟨_, rfl⟩
      have b598 : Bd v596 (0) (12) := (by rw [← ee597]; exact b531.2.2.2.1 13 (by decide))
      have q599 : elm (S527 7) 13 = v596.toInt := (elm_of c530 13).trans (congrArg Int32.toInt (ee597))
      have q600 : elm (S153 7) 16 = v34.toInt := (elm_of c525 16).trans (congrArg Int32.toInt (ee35))
      obtain ⟨v601, ee602⟩ : ∃ z : Int32, f529 16 = z := ⟨_, rfl⟩
      have b603 : Bd v601 (0) (8) := (by rw [← ee602]; exact b531.2.2.2.2.1 16 (by decide))
      have q604 : elm (S527 7) 16 = v601.toInt := (elm_of c530 16).trans (congrArg Int32.toInt (ee602))
      have q605 : elm (S153 7) 18 = v37.toInt := (elm_of c525 18).trans (congrArg Int32.toInt (ee38))
      obtain ⟨v606, ee607⟩ : ∃ z : Int32, f529 18 = z := ⟨_, rfl⟩
      have b608 : Bd v606 (0) (3) := (by rw [← ee607]; exact b531.2.2.2.2.2.2.1 18 (by decide))
      have q609 : elm (S527 7) 18 = v606.toInt := (elm_of c530 18).trans (congrArg Int32.toInt (ee607))
      have q610 : elm (S153 7) 19 = v112.toInt := (elm_of c525 19).trans (congrArg Int32.toInt (ee113))
      obtain ⟨v611, ee612⟩ : ∃ z : Int32, f529 19 = z := ⟨_, rfl⟩
      have b613 : Bd v611 (0) (40) := (by rw [← ee612]; exact b531.2.2.2.2.2.2.2 19 (by decide))
      have q614 : elm (S527 7) 19 = v611.toInt := (elm_of c530 19).trans (congrArg Int32.toInt (ee612))
      have q615 : elm (S153 7) 20 = v46.toInt := (elm_of c525 20).trans (congrArg Int32.toInt (ee47))
      obtain ⟨v616, ee617⟩ : ∃ z : Int32, f529 20 = z := ⟨_, rfl⟩
      have b618 : Bd v616 (0) (12) := (by rw [← ee617]; exact b531.1 20 (by decide))
      have q619 : elm (S527 7) 20 = v616.toInt := (elm_of c530 20).trans (congrArg Int32.toInt (ee617))
      have q620 : elm (S153 7) 21 = v43.toInt := (elm_of c525 21).trans (congrArg Int32.toInt (ee44))
      obtain ⟨v621, ee622⟩ : ∃ z : Int32, f529 21 = z := ⟨_, rfl⟩
      have b623 : Bd v621 (0) (12) := (by rw [← ee622]; exact b531.2.1 21 (by decide))
      have q624 : elm (S527 7) 21 = v621.toInt := (elm_of c530 21).trans (congrArg Int32.toInt (ee622))
      have q625 : elm (S153 7) 23 = v49.toInt := (elm_of c525 23).trans (congrArg Int32.toInt (ee50))
      obtain ⟨v626, ee627⟩ : ∃ z : Int32, f529 23 = z := ⟨_, rfl⟩
      have b628 : Bd v626 (0) (12) := (by rw [← ee627]; exact b531.2.2.2.1 23 (by decide))
      have q629 : elm (S527 7) 23 = v626.toInt := (elm_of c530 23).trans (congrArg Int32.toInt (ee627))
      have q630 : elm (S153 7) 26 = v52.toInt := (elm_of c525 26).trans (congrArg Int32.toInt (ee53))
      obtain ⟨v631, ee632⟩ : ∃ z : Int32, f529 26 = z := ⟨_, rfl⟩
      have b633 : Bd v631 (0) (8) := (by rw [← ee632]; exact b531.2.2.2.2.1 26 (by decide))
      have q634 : elm (S527 7) 26 = v631.toInt := (elm_of c530 26).trans (congrArg Int32.toInt (ee632))
      have q635 : elm (S153 7) 28 = v55.toInt := (elm_of c525 28).trans (congrArg Int32.toInt (ee56))
      obtain ⟨v636, ee637⟩ : ∃ z : Int32, f529 28 = z := ⟨_, rfl⟩
      have b638 : Bd v636 (0) (3) := (by rw [← ee637]; exact b531.2.2.2.2.2.2.1 28 (by decide))
      have q639 : elm (S527 7) 28 = v636.toInt := (elm_of c530 28).trans (congrArg Int32.toInt (ee637))
      have q640 : elm (S153 7) 29 = v115.toInt := (elm_of c525 29).trans (congrArg Int32.toInt (ee116))
      obtain ⟨v641, ee642⟩ : ∃ z : Int32, f529 29 = z := ⟨_, rfl⟩
      have b643 : Bd v641 (0) (40) := (by rw [← ee642]; exact b531.2.2.2.2.2.2.2 29 (by decide))
      have q644 : elm (S527 7) 29 = v641.toInt := (elm_of c530 29).trans (congrArg Int32.toInt (ee642))
      have q645 : elm (S153 6) 0 = v22.toInt := (elm_of c526 0).trans (congrArg Int32.toInt (ee23))
      obtain ⟨f646, c647, b648⟩ := invM_6 hI
      obtain ⟨v649, ee650⟩ : ∃ z : Int32, f646 3 = z := ⟨_, rfl⟩
      have b651 : Bd v649 (0) (40000) := (by rw [← ee650]; exact b648 3)
      have q652 : elm (S527 6) 3 = v649.toInt := (elm_of c647 3).trans (congrArg Int32.toInt (ee650))
      obtain ⟨v653, ee654⟩ : ∃ z : Int32, f646 0 = z := ⟨_, rfl⟩
      have b655 : Bd v653 (0) (40000) := (by rw [← ee654]; exact b648 0)
      have q656 : elm (S527 6) 0 = v653.toInt := (elm_of c647 0).trans (congrArg Int32.toInt (ee654))
      have q657 : elm (S153 6) 1 = v40.toInt := (elm_of c526 1).trans (congrArg Int32.toInt (ee41))
      obtain ⟨v658, ee659⟩ : ∃ z : Int32, f646 1 = z := ⟨_, rfl⟩
      have b660 : Bd v658 (0) (40000) := (by rw [← ee659]; exact b648 1)
      have q661 : elm (S527 6) 1 = v658.toInt := (elm_of c647 1).trans (congrArg Int32.toInt (ee659))
      have q662 : elm (S153 6) 2 = v58.toInt := (elm_of c526 2).trans (congrArg Int32.toInt (ee59))
      obtain ⟨v663, ee664⟩ : ∃ z : Int32, f646 2 = z := ⟨_, rfl⟩
      have b665 : Bd v663 (0) (40000) := (by rw [← ee664]; exact b648 2)
      have q666 : elm (S527 6) 2 = v663.toInt := (elm_of c647 2).trans (congrArg Int32.toInt (ee664))
      refine lv_aload_n hx hb dX12_image_28 rfl (lv_at hl 0 rfl) ?_
      have c667 : S527 0 = .inr (12, [.int 0, .ref (ad 1), .ref (ad 2), .ref (ad 3), .ref (ad 4), .ref (ad 5), .int v125, .int v127, .int v129, .int v131, .int v132, .long w133, .int v134, .int v136, .int v137, .int v138, .ref (ad 6), .ref (ad 7), .ref (ad 8), .ref (ad 9), .ref (ad 10), .ref (ad 11), .ref (ad 12), .ref (ad 13), .ref (ad 14), .ref (ad 15), .int v139, .int v141, .ref (ad 16), .int v143, .int v145, .int v147, .int v149, .int v150, .ref (ad 17), .ref (ad 18), .int v151, .ref (ad 19)]) := ((o527 0 (by decide)).trans c154)
      refine xget E hQ 0 (by decide) c667 rfl 23 (by decide) q1491 rfl dX12_image_29 ?_
      refine lv_iload_n hx hb dX12_image_32 rfl (lv_at hl 1 rfl) ?_
      refine lv_iconst (v := 1) hx hb dX12_image_33 (by decide) ?_
      have c668 : S527 13 = .inl (g.2 3, 3, .inl f121) := ((o527 13 (by decide)).trans (up_ne eS153 (by decide) c122))
      refine xzast E hs hQ 13 (by decide) c668 (ib_in b167 (by decide) (by decide)) dX12_image_34 (fun H locs S669 eS669 hQ => ?_)
      have hI := invM_up_13 hI eS669 ⟨_, rfl, upd_b b123 (nar_z _)⟩
      have b671 : ∀ j, Bd ((upd f121 (a1 : Int32).toNatClampNeg (vp_nar .boolean 1)) j) (0) (1) := upd_b b123 (nar_z _)
      have c670 : S669 13 = .inl (g.2 3, 3, .inl (upd f121 (a1 : Int32).toNatClampNeg (vp_nar .boolean 1))) := up_at eS669 rfl
      refine lv_iconst (v := 0) hx hb dX12_image_35 (by decide) ?_
      have c672 : S669 7 = .inl (g.2 0, 50, .inl f529) := (up_ne eS669 (by decide) c530)
      have q673 : elm (S669 7) 1 = v565.toInt := (elm_of c672 1).trans (congrArg Int32.toInt (ee566))
      have q674 : elm (S669 7) 0 = v561.toInt := (elm_of c672 0).trans (congrArg Int32.toInt (ee562))
      have q675 : elm (S669 7) 3 = v569.toInt := (elm_of c672 3).trans (congrArg Int32.toInt (ee570))
      have q676 : elm (S669 7) 6 = v573.toInt := (elm_of c672 6).trans (congrArg Int32.toInt (ee574))
      have q677 : elm (S669 7) 8 = v577.toInt := (elm_of c672 8).trans (congrArg Int32.toInt (ee578))
      have c678 : S669 6 = .inl (g.2 0, 5, .inl f646) := (up_ne eS669 (by decide) c647)
      have q679 : elm (S669 6) 0 = v653.toInt := (elm_of c678 0).trans (congrArg Int32.toInt (ee654))
      have q680 : elm (S669 7) 11 = v591.toInt := (elm_of c672 11).trans (congrArg Int32.toInt (ee592))
      have q681 : elm (S669 7) 10 = v586.toInt := (elm_of c672 10).trans (congrArg Int32.toInt (ee587))
      have q682 : elm (S669 7) 13 = v596.toInt := (elm_of c672 13).trans (congrArg Int32.toInt (ee597))
      have q683 : elm (S669 7) 16 = v601.toInt := (elm_of c672 16).trans (congrArg Int32.toInt (ee602))
      have q684 : elm (S669 7) 18 = v606.toInt := (elm_of c672 18).trans (congrArg Int32.toInt (ee607))
      have q685 : elm (S669 6) 1 = v658.toInt := (elm_of c678 1).trans (congrArg Int32.toInt (ee659))
      have q686 : elm (S669 7) 21 = v621.toInt := (elm_of c672 21).trans (congrArg Int32.toInt (ee622))
      have q687 : elm (S669 7) 20 = v616.toInt := (elm_of c672 20).trans (congrArg Int32.toInt (ee617))
      have q688 : elm (S669 7) 23 = v626.toInt := (elm_of c672 23).trans (congrArg Int32.toInt (ee627))
      have q689 : elm (S669 7) 26 = v631.toInt := (elm_of c672 26).trans (congrArg Int32.toInt (ee632))
      have q690 : elm (S669 7) 28 = v636.toInt := (elm_of c672 28).trans (congrArg Int32.toInt (ee637))
      have q691 : elm (S669 6) 2 = v663.toInt := (elm_of c678 2).trans (congrArg Int32.toInt (ee664))
      have q692 : elm (S669 7) 31 = v537.toInt := (elm_of c672 31).trans (congrArg Int32.toInt (ee538))
      have q693 : elm (S669 7) 30 = v532.toInt := (elm_of c672 30).trans (congrArg Int32.toInt (ee533))
      have q694 : elm (S669 7) 33 = v542.toInt := (elm_of c672 33).trans (congrArg Int32.toInt (ee543))
      have q695 : elm (S669 7) 36 = v547.toInt := (elm_of c672 36).trans (congrArg Int32.toInt (ee548))
      have q696 : elm (S669 7) 38 = v552.toInt := (elm_of c672 38).trans (congrArg Int32.toInt (ee553))
      have q697 : elm (S669 6) 3 = v649.toInt := (elm_of c678 3).trans (congrArg Int32.toInt (ee650))
      exact xri E hr hlk hQ (⟨hI, (up_o (o_trans (up_o o_refl eS153 (by decide)) o527 (by decide)) eS669 (by decide)), (ib_wk (by decide : Bd 0 (0) (0)) (by decide) (by decide)), (by omega), (by omega), (by omega), (by omega), (by omega), (by omega), (by omega), (by omega), (by omega), (by omega), (by omega), (by omega), (by omega), (by omega), (by omega), (by omega), (by omega), (by omega), (by omega), (by omega), (at_tr u527_0 (up_eq (j := 7) eS669 (by decide)) (up_eq (j := 12) eS669 (by decide))), (at_tr u527_1 (up_eq (j := 7) eS669 (by decide)) (up_eq (j := 12) eS669 (by decide))), (at_tr u527_2 (up_eq (j := 7) eS669 (by decide)) (up_eq (j := 12) eS669 (by decide))), (at_tr u527_3 (up_eq (j := 7) eS669 (by decide)) (up_eq (j := 12) eS669 (by decide))), (ht_tr u527_4 (up_eq (j := 7) eS669 (by decide)) (up_eq (j := 9) eS669 (by decide))), (ht_tr u527_5 (up_eq (j := 7) eS669 (by decide)) (up_eq (j := 9) eS669 (by decide))), (ht_tr u527_6 (up_eq (j := 7) eS669 (by decide)) (up_eq (j := 9) eS669 (by decide))), (ht_tr u527_7 (up_eq (j := 7) eS669 (by decide)) (up_eq (j := 9) eS669 (by decide))), (by have h1 := u161_0; unfold InP at h1; unfold ansImage; rw [if_neg (by omega)]), (pu_st c122 c670 (by omega) (by decide))⟩) dX12_image_36
  · have h698 := ib_eq k162
    have b699 : Bd r161 (0) (0) := ⟨(b161).1, ((rf_eq b161 (by decide : Bd 0 (0) (0)) h698).1).2⟩
    clear g161_0
    refine lv_bipush (v := (-2)) hx hb dX12_image_17 (by decide) ?_
    have c700 : S153 7 = .inl (g.2 0, 50, .inl f1) := (up_ne eS153 (by decide) c2)
    have q701 : elm (S153 7) 1 = v4.toInt := (elm_of c700 1).trans (congrArg Int32.toInt (ee5))
    have q702 : elm (S153 7) 0 = v7.toInt := (elm_of c700 0).trans (congrArg Int32.toInt (ee8))
    have q703 : elm (S153 7) 3 = v10.toInt := (elm_of c700 3).trans (congrArg Int32.toInt (ee11))
    have q704 : elm (S153 7) 6 = v13.toInt := (elm_of c700 6).trans (congrArg Int32.toInt (ee14))
    have q705 : elm (S153 7) 8 = v16.toInt := (elm_of c700 8).trans (congrArg Int32.toInt (ee17))
    have c706 : S153 6 = .inl (g.2 0, 5, .inl f19) := (up_ne eS153 (by decide) c20)
    have q707 : elm (S153 6) 0 = v22.toInt := (elm_of c706 0).trans (congrArg Int32.toInt (ee23))
    have q708 : elm (S153 7) 11 = v25.toInt := (elm_of c700 11).trans (congrArg Int32.toInt (ee26))
    have q709 : elm (S153 7) 10 = v28.toInt := (elm_of c700 10).trans (congrArg Int32.toInt (ee29))
    have q710 : elm (S153 7) 13 = v31.toInt := (elm_of c700 13).trans (congrArg Int32.toInt (ee32))
    have q711 : elm (S153 7) 16 = v34.toInt := (elm_of c700 16).trans (congrArg Int32.toInt (ee35))
    have q712 : elm (S153 7) 18 = v37.toInt := (elm_of c700 18).trans (congrArg Int32.toInt (ee38))
    have q713 : elm (S153 6) 1 = v40.toInt := (elm_of c706 1).trans (congrArg Int32.toInt (ee41))
    have q714 : elm (S153 7) 21 = v43.toInt := (elm_of c700 21).trans (congrArg Int32.toInt (ee44))
    have q715 : elm (S153 7) 20 = v46.toInt := (elm_of c700 20).trans (congrArg Int32.toInt (ee47))
    have q716 : elm (S153 7) 23 = v49.toInt := (elm_of c700 23).trans (congrArg Int32.toInt (ee50))
    have q717 : elm (S153 7) 26 = v52.toInt := (elm_of c700 26).trans (congrArg Int32.toInt (ee53))
    have q718 : elm (S153 7) 28 = v55.toInt := (elm_of c700 28).trans (congrArg Int32.toInt (ee56))
    have q719 : elm (S153 6) 2 = v58.toInt := (elm_of c706 2).trans (congrArg Int32.toInt (ee59))
    have q720 : elm (S153 7) 31 = v61.toInt := (elm_of c700 31).trans (congrArg Int32.toInt (ee62))
    have q721 : elm (S153 7) 30 = v64.toInt := (elm_of c700 30).trans (congrArg Int32.toInt (ee65))
    have q722 : elm (S153 7) 33 = v67.toInt := (elm_of c700 33).trans (congrArg Int32.toInt (ee68))
    have q723 : elm (S153 7) 36 = v70.toInt := (elm_of c700 36).trans (congrArg Int32.toInt (ee71))
    have q724 : elm (S153 7) 38 = v73.toInt := (elm_of c700 38).trans (congrArg Int32.toInt (ee74))
    have q725 : elm (S153 6) 3 = v76.toInt := (elm_of c706 3).trans (congrArg Int32.toInt (ee77))
    exact xri E hr hlk hQ (⟨hI, (up_o o_refl eS153 (by decide)), (ib_wk (by decide : Bd (-2) (-2) (-2)) (by decide) (by decide)), (by omega), (by omega), (by omega), (by omega), (by omega), (by omega), (by omega), (by omega), (by omega), (by omega), (by omega), (by omega), (by omega), (by omega), (by omega), (by omega), (by omega), (by omega), (by omega), (by omega), (at_tr hAT0 (up_eq (j := 7) eS153 (by decide)) (up_eq (j := 12) eS153 (by decide))), (at_tr hAT1 (up_eq (j := 7) eS153 (by decide)) (up_eq (j := 12) eS153 (by decide))), (at_tr hAT2 (up_eq (j := 7) eS153 (by decide)) (up_eq (j := 12) eS153 (by decide))), (at_tr hAT3 (up_eq (j := 7) eS153 (by decide)) (up_eq (j := 12) eS153 (by decide))), (ht_tr hHT0 (up_eq (j := 7) eS153 (by decide)) (up_eq (j := 9) eS153 (by decide))), (ht_tr hHT1 (up_eq (j := 7) eS153 (by decide)) (up_eq (j := 9) eS153 (by decide))), (ht_tr hHT2 (up_eq (j := 7) eS153 (by decide)) (up_eq (j := 9) eS153 (by decide))), (ht_tr hHT3 (up_eq (j := 7) eS153 (by decide)) (up_eq (j := 9) eS153 (by decide))), (by have h1 := u161_0; unfold InP at h1; unfold ansImage; rw [if_pos (by omega)]), (pu_no (up_eq (j := 13) eS153 (by decide)) (by have h1 := u161_0; unfold InP at h1; omega))⟩) dX12_image_19
set_option maxHeartbeats 4000000 in
set_option maxRecDepth 100000 in
theorem gX12_back_0 (l : Launch) (g : GG) (ad : Nat → Nat) (hD : Dj ad 20) (S : SS) (hI : InvM g ad S) (a1 : Int32) (hq1 : 0 ≤ 12 * elm (S 7) 1 + (-1) * elm (S 7) 0) (hq2 : 0 ≤ 12 * elm (S 7) 3 + (-1) * elm (S 7) 0) (hq3 : 0 ≤ 8 * elm (S 7) 0 + (-1) * elm (S 7) 6) (hq4 : 0 ≤ 3 * elm (S 7) 0 + (-1) * elm (S 7) 8) (hq5 : 0 ≤ 40000 * elm (S 7) 0 + (-1) * elm (S 6) 0) (hq6 : 0 ≤ 12 * elm (S 7) 11 + (-1) * elm (S 7) 10) (hq7 : 0 ≤ 12 * elm (S 7) 13 + (-1) * elm (S 7) 10) (hq8 : 0 ≤ 8 * elm (S 7) 10 + (-1) * elm (S 7) 16) (hq9 : 0 ≤ 3 * elm (S 7) 10 + (-1) * elm (S 7) 18) (hq10 : 0 ≤ 40000 * elm (S 7) 10 + (-1) * elm (S 6) 1) (hq11 : 0 ≤ 12 * elm (S 7) 21 + (-1) * elm (S 7) 20) (hq12 : 0 ≤ 12 * elm (S 7) 23 + (-1) * elm (S 7) 20) (hq13 : 0 ≤ 8 * elm (S 7) 20 + (-1) * elm (S 7) 26) (hq14 : 0 ≤ 3 * elm (S 7) 20 + (-1) * elm (S 7) 28) (hq15 : 0 ≤ 40000 * elm (S 7) 20 + (-1) * elm (S 6) 2) (hq16 : 0 ≤ 12 * elm (S 7) 31 + (-1) * elm (S 7) 30) (hq17 : 0 ≤ 12 * elm (S 7) 33 + (-1) * elm (S 7) 30) (hq18 : 0 ≤ 8 * elm (S 7) 30 + (-1) * elm (S 7) 36) (hq19 : 0 ≤ 3 * elm (S 7) 30 + (-1) * elm (S 7) 38) (hq20 : 0 ≤ 40000 * elm (S 7) 30 + (-1) * elm (S 6) 3) (hAT0 : ATp (S 7) (S 12) 0) (hAT1 : ATp (S 7) (S 12) 1) (hAT2 : ATp (S 7) (S 12) 2) (hAT3 : ATp (S 7) (S 12) 3) (hHT0 : HTp (S 7) (S 9) 0) (hHT1 : HTp (S 7) (S 9) 1) (hHT2 : HTp (S 7) (S 9) 2) (hHT3 : HTp (S 7) (S 9) 3) : Met l yX12_back (wG (.code yX12_back cX12_back 2 (some .int))) (Rm 2) (XPre g ad 20 S [.ref (ad 0), .int a1]) (va_Qi (fun r S' => InvM g ad S' ∧ (∀ j, j ∉ ([0, 6, 7, 8, 9, 10, 11, 12] : List Nat) → S' j = S j) ∧ Bd r (-6) (0) ∧ (0 ≤ 12 * elm (S' 7) 1 + (-1) * elm (S' 7) 0) ∧ (0 ≤ 12 * elm (S' 7) 3 + (-1) * elm (S' 7) 0) ∧ (0 ≤ 8 * elm (S' 7) 0 + (-1) * elm (S' 7) 6) ∧ (0 ≤ 3 * elm (S' 7) 0 + (-1) * elm (S' 7) 8) ∧ (0 ≤ 40000 * elm (S' 7) 0 + (-1) * elm (S' 6) 0) ∧ (0 ≤ 12 * elm (S' 7) 11 + (-1) * elm (S' 7) 10) ∧ (0 ≤ 12 * elm (S' 7) 13 + (-1) * elm (S' 7) 10) ∧ (0 ≤ 8 * elm (S' 7) 10 + (-1) * elm (S' 7) 16) ∧ (0 ≤ 3 * elm (S' 7) 10 + (-1) * elm (S' 7) 18) ∧ (0 ≤ 40000 * elm (S' 7) 10 + (-1) * elm (S' 6) 1) ∧ (0 ≤ 12 * elm (S' 7) 21 + (-1) * elm (S' 7) 20) ∧ (0 ≤ 12 * elm (S' 7) 23 + (-1) * elm (S' 7) 20) ∧ (0 ≤ 8 * elm (S' 7) 20 + (-1) * elm (S' 7) 26) ∧ (0 ≤ 3 * elm (S' 7) 20 + (-1) * elm (S' 7) 28) ∧ (0 ≤ 40000 * elm (S' 7) 20 + (-1) * elm (S' 6) 2) ∧ (0 ≤ 12 * elm (S' 7) 31 + (-1) * elm (S' 7) 30) ∧ (0 ≤ 12 * elm (S' 7) 33 + (-1) * elm (S' 7) 30) ∧ (0 ≤ 8 * elm (S' 7) 30 + (-1) * elm (S' 7) 36) ∧ (0 ≤ 3 * elm (S' 7) 30 + (-1) * elm (S' 7) 38) ∧ (0 ≤ 40000 * elm (S' 7) 30 + (-1) * elm (S' 6) 3) ∧ (ATp (S' 7) (S' 12) 0) ∧ (ATp (S' 7) (S' 12) 1) ∧ (ATp (S' 7) (S' 12) 2) ∧ (ATp (S' 7) (S' 12) 3) ∧ (HTp (S' 7) (S' 9) 0) ∧ (HTp (S' 7) (S' 9) 1) ∧ (HTp (S' 7) (S' 9) 2) ∧ (HTp (S' 7) (S' 9) 3) ∧ (r = ansBk a1 (elm (S 13) a1.toInt.toNat))) (QB g ad 20) (FA ad 20)) 0 0 (FA ad 20) := by
  refine xmet cX12_back "EbbWreckModel" (by decide) rfl (Nat.le_of_ble_eq_true rfl) (fun p e s m below meth c E hr hlk hml hQ ls hl => ?_)
  have hx := E.1
  have hb := E.2.1
  have hs : Sp ad 20 (FA ad 20) := Sp.fa hD
  have hl : lv_has ls 2 [(0, .ref (ad 0)), (1, .int a1)] := hl
  obtain ⟨f1, c2, b3⟩ := invM_7 hI
  obtain ⟨v4, ee5⟩ : ∃ z : Int32, f1 1 = z := ⟨_, rfl⟩
  have b6 : Bd v4 (0) (12) := (by rw [← ee5]; exact b3.2.1 1 (by decide))
  obtain ⟨v7, ee8⟩ : ∃ z : Int32, f1 0 = z := ⟨_, rfl⟩
  have b9 : Bd v7 (0) (12) := (by rw [← ee8]; exact b3.1 0 (by decide))
  obtain ⟨v10, ee11⟩ : ∃ z : Int32, f1 3 = z := ⟨_, rfl⟩
  have b12 : Bd v10 (0) (12) := (by rw [← ee11]; exact b3.2.2.2.1 3 (by decide))
  obtain ⟨v13, ee14⟩ : ∃ z : Int32, f1 6 = z := ⟨_, rfl⟩
  have b15 : Bd v13 (0) (8) := (by rw [← ee14]; exact b3.2.2.2.2.1 6 (by decide))
  obtain ⟨v16, ee17⟩ : ∃ z : Int32, f1 8 = z := ⟨_, rfl⟩
  have b18 : Bd v16 (0) (3) := (by rw [← ee17]; exact b3.2.2.2.2.2.2.1 8 (by decide))
  obtain ⟨f19, c20, b21⟩ := invM_6 hI
  obtain ⟨v22, ee23⟩ : ∃ z : Int32, f19 0 = z := ⟨_, rfl⟩
  have b24 : Bd v22 (0) (40000) := (by rw [← ee23]; exact b21 0)
  obtain ⟨v25, ee26⟩ : ∃ z : Int32, f1 11 = z := ⟨_, rfl⟩
  have b27 : Bd v25 (0) (12) := (by rw [← ee26]; exact b3.2.1 11 (by decide))
  obtain ⟨v28, ee29⟩ : ∃ z : Int32, f1 10 = z := ⟨_, rfl⟩
  have b30 : Bd v28 (0) (12) := (by rw [← ee29]; exact b3.1 10 (by decide))
  obtain ⟨v31, ee32⟩ : ∃ z : Int32, f1 13 = z := ⟨_, rfl⟩
  have b33 : Bd v31 (0) (12) := (by rw [← ee32]; exact b3.2.2.2.1 13 (by decide))
  obtain ⟨v34, ee35⟩ : ∃ z : Int32, f1 16 = z := ⟨_, rfl⟩
  have b36 : Bd v34 (0) (8) := (by rw [← ee35]; exact b3.2.2.2.2.1 16 (by decide))
  obtain ⟨v37, ee38⟩ : ∃ z : Int32, f1 18 = z := ⟨_, rfl⟩
  have b39 : Bd v37 (0) (3) := (by rw [← ee38]; exact b3.2.2.2.2.2.2.1 18 (by decide))
  obtain ⟨v40, ee41⟩ : ∃ z : Int32, f19 1 = z := ⟨_, rfl⟩
  have b42 : Bd v40 (0) (40000) := (by rw [← ee41]; exact b21 1)
  obtain ⟨v43, ee44⟩ : ∃ z : Int32, f1 21 = z := ⟨_, rfl⟩
  have b45 : Bd v43 (0) (12) := (by rw [← ee44]; exact b3.2.1 21 (by decide))
  obtain ⟨v46, ee47⟩ : ∃ z : Int32, f1 20 = z := ⟨_, rfl⟩
  have b48 : Bd v46 (0) (12) := (by rw [← ee47]; exact b3.1 20 (by decide))
  obtain ⟨v49, ee50⟩ : ∃ z : Int32, f1 23 = z := ⟨_, rfl⟩
  have b51 : Bd v49 (0) (12) := (by rw [← ee50]; exact b3.2.2.2.1 23 (by decide))
  obtain ⟨v52, ee53⟩ : ∃ z : Int32, f1 26 = z := ⟨_, rfl⟩
  have b54 : Bd v52 (0) (8) := (by rw [← ee53]; exact b3.2.2.2.2.1 26 (by decide))
  obtain ⟨v55, ee56⟩ : ∃ z : Int32, f1 28 = z := ⟨_, rfl⟩
  have b57 : Bd v55 (0) (3) := (by rw [← ee56]; exact b3.2.2.2.2.2.2.1 28 (by decide))
  obtain ⟨v58, ee59⟩ : ∃ z : Int32, f19 2 = z := ⟨_, rfl⟩
  have b60 : Bd v58 (0) (40000) := (by rw [← ee59]; exact b21 2)
  obtain ⟨v61, ee62⟩ : ∃ z : Int32, f1 31 = z := ⟨_, rfl⟩
  have b63 : Bd v61 (0) (12) := (by rw [← ee62]; exact b3.2.1 31 (by decide))
  obtain ⟨v64, ee65⟩ : ∃ z : Int32, f1 30 = z := ⟨_, rfl⟩
  have b66 : Bd v64 (0) (12) := (by rw [← ee65]; exact b3.1 30 (by decide))
  obtain ⟨v67, ee68⟩ : ∃ z : Int32, f1 33 = z := ⟨_, rfl⟩
  have b69 : Bd v67 (0) (12) := (by rw [← ee68]; exact b3.2.2.2.1 33 (by decide))
  obtain ⟨v70, ee71⟩ : ∃ z : Int32, f1 36 = z := ⟨_, rfl⟩
  have b72 : Bd v70 (0) (8) := (by rw [← ee71]; exact b3.2.2.2.2.1 36 (by decide))
  obtain ⟨v73, ee74⟩ : ∃ z : Int32, f1 38 = z := ⟨_, rfl⟩
  have b75 : Bd v73 (0) (3) := (by rw [← ee74]; exact b3.2.2.2.2.2.2.1 38 (by decide))
  obtain ⟨v76, ee77⟩ : ∃ z : Int32, f19 3 = z := ⟨_, rfl⟩
  have b78 : Bd v76 (0) (40000) := (by rw [← ee77]; exact b21 3)
  have q79 : elm (S 7) 1 = v4.toInt := (elm_of c2 1).trans (congrArg Int32.toInt (ee5))
  have q80 : elm (S 7) 0 = v7.toInt := (elm_of c2 0).trans (congrArg Int32.toInt (ee8))
  have q81 : elm (S 7) 3 = v10.toInt := (elm_of c2 3).trans (congrArg Int32.toInt (ee11))
  have q82 : elm (S 7) 6 = v13.toInt := (elm_of c2 6).trans (congrArg Int32.toInt (ee14))
  have q83 : elm (S 7) 8 = v16.toInt := (elm_of c2 8).trans (congrArg Int32.toInt (ee17))
  have q84 : elm (S 6) 0 = v22.toInt := (elm_of c20 0).trans (congrArg Int32.toInt (ee23))
  have q85 : elm (S 7) 11 = v25.toInt := (elm_of c2 11).trans (congrArg Int32.toInt (ee26))
  have q86 : elm (S 7) 10 = v28.toInt := (elm_of c2 10).trans (congrArg Int32.toInt (ee29))
  have q87 : elm (S 7) 13 = v31.toInt := (elm_of c2 13).trans (congrArg Int32.toInt (ee32))
  have q88 : elm (S 7) 16 = v34.toInt := (elm_of c2 16).trans (congrArg Int32.toInt (ee35))
  have q89 : elm (S 7) 18 = v37.toInt := (elm_of c2 18).trans (congrArg Int32.toInt (ee38))
  have q90 : elm (S 6) 1 = v40.toInt := (elm_of c20 1).trans (congrArg Int32.toInt (ee41))
  have q91 : elm (S 7) 21 = v43.toInt := (elm_of c2 21).trans (congrArg Int32.toInt (ee44))
  have q92 : elm (S 7) 20 = v46.toInt := (elm_of c2 20).trans (congrArg Int32.toInt (ee47))
  have q93 : elm (S 7) 23 = v49.toInt := (elm_of c2 23).trans (congrArg Int32.toInt (ee50))
  have q94 : elm (S 7) 26 = v52.toInt := (elm_of c2 26).trans (congrArg Int32.toInt (ee53))
  have q95 : elm (S 7) 28 = v55.toInt := (elm_of c2 28).trans (congrArg Int32.toInt (ee56))
  have q96 : elm (S 6) 2 = v58.toInt := (elm_of c20 2).trans (congrArg Int32.toInt (ee59))
  have q97 : elm (S 7) 31 = v61.toInt := (elm_of c2 31).trans (congrArg Int32.toInt (ee62))
  have q98 : elm (S 7) 30 = v64.toInt := (elm_of c2 30).trans (congrArg Int32.toInt (ee65))
  have q99 : elm (S 7) 33 = v67.toInt := (elm_of c2 33).trans (congrArg Int32.toInt (ee68))
  have q100 : elm (S 7) 36 = v70.toInt := (elm_of c2 36).trans (congrArg Int32.toInt (ee71))
  have q101 : elm (S 7) 38 = v73.toInt := (elm_of c2 38).trans (congrArg Int32.toInt (ee74))
  have q102 : elm (S 6) 3 = v76.toInt := (elm_of c20 3).trans (congrArg Int32.toInt (ee77))
  obtain ⟨f103, c104, b105⟩ := invM_12 hI
  obtain ⟨f106, c107, b108⟩ := invM_9 hI
  obtain ⟨v109, ee110⟩ : ∃ z : Int32, f1 9 = z := ⟨_, rfl⟩
  have b111 : Bd v109 (0) (40) := (by rw [← ee110]; exact b3.2.2.2.2.2.2.2 9 (by decide))
  obtain ⟨v112, ee113⟩ : ∃ z : Int32, f1 19 = z := ⟨_, rfl⟩
  have b114 : Bd v112 (0) (40) := (by rw [← ee113]; exact b3.2.2.2.2.2.2.2 19 (by decide))
  obtain ⟨v115, ee116⟩ : ∃ z : Int32, f1 29 = z := ⟨_, rfl⟩
  have b117 : Bd v115 (0) (40) := (by rw [← ee116]; exact b3.2.2.2.2.2.2.2 29 (by decide))
  obtain ⟨v118, ee119⟩ : ∃ z : Int32, f1 39 = z := ⟨_, rfl⟩
  have b120 : Bd v118 (0) (40) := (by rw [← ee119]; exact b3.2.2.2.2.2.2.2 39 (by decide))
  refine lv_aload_n hx hb dX12_back_0 rfl (lv_at hl 0 rfl) ?_
  refine lv_iconst (v := 0) hx hb dX12_back_1 (by decide) ?_
  obtain ⟨v121, v122, v124, v126, v128, v129, w130, v131, v133, v134, v135, v136, v138, v140, v142, v144, v146, v147, v148, c149, b123, b125, b127, b132, b137, b139, b141, b143, b145⟩ := invM_0 hI
  have c149 : S 0 = .inr (12, [.int v121, .ref (ad 1), .ref (ad 2), .ref (ad 3), .ref (ad 4), .ref (ad 5), .int v122, .int v124, .int v126, .int v128, .int v129, .long w130, .int v131, .int v133, .int v134, .int v135, .ref (ad 6), .ref (ad 7), .ref (ad 8), .ref (ad 9), .ref (ad 10), .ref (ad 11), .ref (ad 12), .ref (ad 13), .ref (ad 14), .ref (ad 15), .int v136, .int v138, .ref (ad 16), .int v140, .int v142, .int v144, .int v146, .int v147, .ref (ad 17), .ref (ad 18), .int v148, .ref (ad 19)]) := c149
  refine xputi E hs hQ 0 (by decide) c149 rfl 0 (by decide) q1468 rfl rfl (Nat.le_of_ble_eq_true rfl) dX12_back_2 (fun H locs S150 eS150 hQ => ?_)
  have hI := invM_up_0 hI eS150 ⟨0, v122, v124, v126, v128, v129, w130, v131, v133, v134, v135, v136, v138, v140, v142, v144, v146, v147, v148, rfl, b123, b125, b127, b132, b137, b139, b141, b143, b145⟩
  have c151 : S150 0 = .inr (12, [.int 0, .ref (ad 1), .ref (ad 2), .ref (ad 3), .ref (ad 4), .ref (ad 5), .int v122, .int v124, .int v126, .int v128, .int v129, .long w130, .int v131, .int v133, .int v134, .int v135, .ref (ad 6), .ref (ad 7), .ref (ad 8), .ref (ad 9), .ref (ad 10), .ref (ad 11), .ref (ad 12), .ref (ad 13), .ref (ad 14), .ref (ad 15), .int v136, .int v138, .ref (ad 16), .int v140, .int v142, .int v144, .int v146, .int v147, .ref (ad 17), .ref (ad 18), .int v148, .ref (ad 19)]) := up_at eS150 rfl
  refine lv_iload_n hx hb dX12_back_5 rfl (lv_at hl 1 rfl) ?_
  refine lv_i2l hx hb dX12_back_6 rfl ?_
  refine lv_topl (fun w152 e153 => ?_)
  have t154 : w152.toInt = a1.toInt := by rw [e153]; exact i2l_i _
  have b155 : BdL w152 (-2147483648) (2147483647) := (by have h1 := ((ib_full a1)).1; have h2 := ((ib_full a1)).2; exact ⟨by omega, by omega⟩)
  refine lv_lconst (v := 0) hx hb dX12_back_7 (by decide) ?_
  refine lv_ldc2 (v := 2) hx hb E.2.2.1 (E.2.2.2.1 _ q1754) dX12_back_8 ?_
  have q156 : (0 : Int64).toInt = 0 := by decide
  have q157 : (2 : Int64).toInt = 2 := by decide
  refine xcSi E hs hQ hml hl.1 (gX12_in l g ad hD S150 hI w152 0 2) mX12_in q1591 rfl ⟨(Nat.le_of_ble_eq_true rfl), (Nat.le_of_ble_eq_true rfl)⟩ ⟨(Nat.le_of_ble_eq_true rfl), (Nat.le_of_ble_eq_true rfl)⟩ (Nat.le_of_ble_eq_true rfl) rfl dX12_back_11 (fun r158 S158 H locs hp158 hQ => ?_)
  obtain ⟨rfl, b158, g158_0, u158_0⟩ := hp158
  refine lv_if_ne (tgt := 20) hx hb dX12_back_14 (by decide) (fun k159 => ?_) (fun k159 => ?_)
  · have h160 := ib_ne k159
    have b161 : Bd r158 (1) (1) := rf_nlo b158 (by decide : Bd 0 (0) (0)) h160
    have g162 := g158_0.resolve_left (by omega)
    clear g158_0
    have b163 : BdL w152 (0) (2) := ⟨by omega, by omega⟩
    have b164 : Bd a1 (0) (2) := ⟨by omega, by omega⟩
    refine lv_aload_n hx hb dX12_back_20 rfl (lv_at hl 0 rfl) ?_
    refine xget E hQ 0 (by decide) c151 rfl 23 (by decide) q1491 rfl dX12_back_21 ?_
    refine lv_iload_n hx hb dX12_back_24 rfl (lv_at hl 1 rfl) ?_
    obtain ⟨f165, c166, b167⟩ := invM_13 hI
    refine xzald E hQ 13 (by decide) c166 (ib_in b164 (by decide) (by decide)) dX12_back_25 ?_
    refine lv_topi (fun z168 e169 => ?_)
    have b170 : Bd z168 (0) (1) := (by rw [e169]; exact b167 _)
    have el171 : elm (S150 13) a1.toInt.toNat = z168.toInt := elm_ld c166 e169
    refine lv_if_ne (tgt := 32) hx hb dX12_back_26 (by decide) (fun k172 => ?_) (fun k172 => ?_)
    · have h173 := ib_ne k172
      have b174 : Bd z168 (1) (1) := rf_nlo b170 (by decide : Bd 0 (0) (0)) h173
      refine lv_aload_n hx hb dX12_back_32 rfl (lv_at hl 0 rfl) ?_
      refine lv_iconst (v := 1) hx hb dX12_back_33 (by decide) ?_
      refine lv_iload_n hx hb dX12_back_34 rfl (lv_at hl 1 rfl) ?_
      refine lv_iadd hx hb dX12_back_35 ?_
      refine lv_topi (fun z175 e176 => ?_)
      have t177 := ib_add e176 (by decide : Bd 1 (1) (1)) b164 (by decide) (by decide)
      have b178 : Bd z175 (1) (3) := ib_addb t177 (by decide : Bd 1 (1) (1)) b164
      have t177 : z175.toInt = 1 + a1.toInt := fold_add t177 (by decide) rfl
      refine lv_iconst (v := 0) hx hb dX12_back_36 (by decide) ?_
      rcases bd_r13 b178 with h179 | h179 | h179
      · subst h179
        have q180 : (1 : Int32).toInt = 1 := by decide
        have q181 : (0 : Int32).toInt = 0 := by decide
        have c182 : S150 7 = .inl (g.2 0, 50, .inl f1) := (up_ne eS150 (by decide) c2)
        have c183 : S150 6 = .inl (g.2 0, 5, .inl f19) := (up_ne eS150 (by decide) c20)
        refine xcVv E hs hQ hml hl.1 0 (gX12_copyShore_1_0 l g ad hD S150 hI (at_tr hAT0 (up_eq (j := 7) eS150 (by decide)) (up_eq (j := 12) eS150 (by decide))) (at_tr hAT1 (up_eq (j := 7) eS150 (by decide)) (up_eq (j := 12) eS150 (by decide))) (at_tr hAT2 (up_eq (j := 7) eS150 (by decide)) (up_eq (j := 12) eS150 (by decide))) (at_tr hAT3 (up_eq (j := 7) eS150 (by decide)) (up_eq (j := 12) eS150 (by decide))) (ht_tr hHT0 (up_eq (j := 7) eS150 (by decide)) (up_eq (j := 9) eS150 (by decide))) (ht_tr hHT1 (up_eq (j := 7) eS150 (by decide)) (up_eq (j := 9) eS150 (by decide))) (ht_tr hHT2 (up_eq (j := 7) eS150 (by decide)) (up_eq (j := 9) eS150 (by decide))) (ht_tr hHT3 (up_eq (j := 7) eS150 (by decide)) (up_eq (j := 9) eS150 (by decide)))) mX12_copyShore q1739 (by decide) c151 rfl rfl ⟨(Nat.le_of_ble_eq_true rfl), (Nat.le_of_ble_eq_true rfl)⟩ ⟨(Nat.le_of_ble_eq_true rfl), (Nat.le_of_ble_eq_true rfl)⟩ (Nat.le_of_ble_eq_true rfl) rfl dX12_back_37 (fun S184 H locs hp184 hQ _ => ?_)
        obtain ⟨hI, o184, g184_0, g184_1, g184_2, g184_3, g184_4, g184_5, g184_6, g184_7, g184_8, g184_9, g184_10, g184_11, g184_12, g184_13, g184_14, g184_15, g184_16, g184_17, g184_18, g184_19, g184_20, g184_21, g184_22, g184_23, g184_24, g184_25, g184_26, g184_27, u184_0, u184_1, u184_2, u184_3, u184_4, u184_5, u184_6, u184_7⟩ := hp184
        have q185 : elm (S150 7) 10 = v28.toInt := (elm_of c182 10).trans (congrArg Int32.toInt (ee29))
        obtain ⟨f186, c187, b188⟩ := invM_7 hI
        obtain ⟨v189, ee190⟩ : ∃ z : Int32, f186 0 = z := ⟨_, rfl⟩
        have b191 : Bd v189 (0) (12) := (by rw [← ee190]; exact b188.1 0 (by decide))
        have q192 : elm (S184 7) 0 = v189.toInt := (elm_of c187 0).trans (congrArg Int32.toInt (ee190))
        have q193 : elm (S150 7) 11 = v25.toInt := (elm_of c182 11).trans (congrArg Int32.toInt (ee26))
        obtain ⟨v194, ee195⟩ : ∃ z : Int32, f186 1 = z := ⟨_, rfl⟩
        have b196 : Bd v194 (0) (12) := (by rw [← ee195]; exact b188.2.1 1 (by decide))
        have q197 : elm (S184 7) 1 = v194.toInt := (elm_of c187 1).trans (congrArg Int32.toInt (ee195))
        have q198 : elm (S150 7) 13 = v31.toInt := (elm_of c182 13).trans (congrArg Int32.toInt (ee32))
        obtain ⟨v199, ee200⟩ : ∃ z : Int32, f186 3 = z := ⟨_, rfl⟩
        have b201 : Bd v199 (0) (12) := (by rw [← ee200]; exact b188.2.2.2.1 3 (by decide))
        have q202 : elm (S184 7) 3 = v199.toInt := (elm_of c187 3).trans (congrArg Int32.toInt (ee200))
        have q203 : elm (S150 7) 16 = v34.toInt := (elm_of c182 16).trans (congrArg Int32.toInt (ee35))
        obtain ⟨v204, ee205⟩ : ∃ z : Int32, f186 6 = z := ⟨_, rfl⟩
        have b206 : Bd v204 (0) (8) := (by rw [← ee205]; exact b188.2.2.2.2.1 6 (by decide))
        have q207 : elm (S184 7) 6 = v204.toInt := (elm_of c187 6).trans (congrArg Int32.toInt (ee205))
        have q208 : elm (S150 7) 18 = v37.toInt := (elm_of c182 18).trans (congrArg Int32.toInt (ee38))
        obtain ⟨v209, ee210⟩ : ∃ z : Int32, f186 8 = z := ⟨_, rfl⟩
        have b211 : Bd v209 (0) (3) := (by rw [← ee210]; exact b188.2.2.2.2.2.2.1 8 (by decide))
        have q212 : elm (S184 7) 8 = v209.toInt := (elm_of c187 8).trans (congrArg Int32.toInt (ee210))
        have q213 : elm (S150 7) 19 = v112.toInt := (elm_of c182 19).trans (congrArg Int32.toInt (ee113))
        obtain ⟨v214, ee215⟩ : ∃ z : Int32, f186 9 = z := ⟨_, rfl⟩
        have b216 : Bd v214 (0) (40) := (by rw [← ee215]; exact b188.2.2.2.2.2.2.2 9 (by decide))
        have q217 : elm (S184 7) 9 = v214.toInt := (elm_of c187 9).trans (congrArg Int32.toInt (ee215))
        obtain ⟨v218, ee219⟩ : ∃ z : Int32, f186 10 = z := ⟨_, rfl⟩
        have b220 : Bd v218 (0) (12) := (by rw [← ee219]; exact b188.1 10 (by decide))
        have q221 : elm (S184 7) 10 = v218.toInt := (elm_of c187 10).trans (congrArg Int32.toInt (ee219))
        obtain ⟨v222, ee223⟩ : ∃ z : Int32, f186 11 = z := ⟨_, rfl⟩
        have b224 : Bd v222 (0) (12) := (by rw [← ee223]; exact b188.2.1 11 (by decide))
        have q225 : elm (S184 7) 11 = v222.toInt := (elm_of c187 11).trans (congrArg Int32.toInt (ee223))
        obtain ⟨v226, ee227⟩ : ∃ z : Int32, f186 13 = z := ⟨_, rfl⟩
        have b228 : Bd v226 (0) (12) := (by rw [← ee227]; exact b188.2.2.2.1 13 (by decide))
        have q229 : elm (S184 7) 13 = v226.toInt := (elm_of c187 13).trans (congrArg Int32.toInt (ee227))
        obtain ⟨v230, ee231⟩ : ∃ z : Int32, f186 16 = z := ⟨_, rfl⟩
        have b232 : Bd v230 (0) (8) := (by rw [← ee231]; exact b188.2.2.2.2.1 16 (by decide))
        have q233 : elm (S184 7) 16 = v230.toInt := (elm_of c187 16).trans (congrArg Int32.toInt (ee231))
        obtain ⟨v234, ee235⟩ : ∃ z : Int32, f186 18 = z := ⟨_, rfl⟩
        have b236 : Bd v234 (0) (3) := (by rw [← ee235]; exact b188.2.2.2.2.2.2.1 18 (by decide))
        have q237 : elm (S184 7) 18 = v234.toInt := (elm_of c187 18).trans (congrArg Int32.toInt (ee235))
        obtain ⟨v238, ee239⟩ : ∃ z : Int32, f186 19 = z := ⟨_, rfl⟩
        have b240 : Bd v238 (0) (40) := (by rw [← ee239]; exact b188.2.2.2.2.2.2.2 19 (by decide))
        have q241 : elm (S184 7) 19 = v238.toInt := (elm_of c187 19).trans (congrArg Int32.toInt (ee239))
        have q242 : elm (S150 7) 20 = v46.toInt := (elm_of c182 20).trans (congrArg Int32.toInt (ee47))
        obtain ⟨v243, ee244⟩ : ∃ z : Int32, f186 20 = z := ⟨_, rfl⟩
        have b245 : Bd v243 (0) (12) := (by rw [← ee244]; exact b188.1 20 (by decide))
        have q246 : elm (S184 7) 20 = v243.toInt := (elm_of c187 20).trans (congrArg Int32.toInt (ee244))
        have q247 : elm (S150 7) 21 = v43.toInt := (elm_of c182 21).trans (congrArg Int32.toInt (ee44))
        obtain ⟨v248, ee249⟩ : ∃ z : Int32, f186 21 = z := ⟨_, rfl⟩
        have b250 : Bd v248 (0) (12) := (by rw [← ee249]; exact b188.2.1 21 (by decide))
        have q251 : elm (S184 7) 21 = v248.toInt := (elm_of c187 21).trans (congrArg Int32.toInt (ee249))
        have q252 : elm (S150 7) 23 = v49.toInt := (elm_of c182 23).trans (congrArg Int32.toInt (ee50))
        obtain ⟨v253, ee254⟩ : ∃ z : Int32, f186 23 = z := ⟨_, rfl⟩
        have b255 : Bd v253 (0) (12) := (by rw [← ee254]; exact b188.2.2.2.1 23 (by decide))
        have q256 : elm (S184 7) 23 = v253.toInt := (elm_of c187 23).trans (congrArg Int32.toInt (ee254))
        have q257 : elm (S150 7) 26 = v52.toInt := (elm_of c182 26).trans (congrArg Int32.toInt (ee53))
        obtain ⟨v258, ee259⟩ : ∃ z : Int32, f186 26 = z := ⟨_, rfl⟩
        have b260 : Bd v258 (0) (8) := (by rw [← ee259]; exact b188.2.2.2.2.1 26 (by decide))
        have q261 : elm (S184 7) 26 = v258.toInt := (elm_of c187 26).trans (congrArg Int32.toInt (ee259))
        have q262 : elm (S150 7) 28 = v55.toInt := (elm_of c182 28).trans (congrArg Int32.toInt (ee56))
        obtain ⟨v263, ee264⟩ : ∃ z : Int32, f186 28 = z := ⟨_, rfl⟩
        have b265 : Bd v263 (0) (3) := (by rw [← ee264]; exact b188.2.2.2.2.2.2.1 28 (by decide))
        have q266 : elm (S184 7) 28 = v263.toInt := (elm_of c187 28).trans (congrArg Int32.toInt (ee264))
        have q267 : elm (S150 7) 29 = v115.toInt := (elm_of c182 29).trans (congrArg Int32.toInt (ee116))
        obtain ⟨v268, ee269⟩ : ∃ z : Int32, f186 29 = z := ⟨_, rfl⟩
        have b270 : Bd v268 (0) (40) := (by rw [← ee269]; exact b188.2.2.2.2.2.2.2 29 (by decide))
        have q271 : elm (S184 7) 29 = v268.toInt := (elm_of c187 29).trans (congrArg Int32.toInt (ee269))
        have q272 : elm (S150 7) 30 = v64.toInt := (elm_of c182 30).trans (congrArg Int32.toInt (ee65))
        obtain ⟨v273, ee274⟩ : ∃ z : Int32, f186 30 = z := ⟨_, rfl⟩
        have b275 : Bd v273 (0) (12) := (by rw [← ee274]; exact b188.1 30 (by decide))
        have q276 : elm (S184 7) 30 = v273.toInt := (elm_of c187 30).trans (congrArg Int32.toInt (ee274))
        have q277 : elm (S150 7) 31 = v61.toInt := (elm_of c182 31).trans (congrArg Int32.toInt (ee62))
        obtain ⟨v278, ee279⟩ : ∃ z : Int32, f186 31 = z := ⟨_, rfl⟩
        have b280 : Bd v278 (0) (12) := (by rw [← ee279]; exact b188.2.1 31 (by decide))
        have q281 : elm (S184 7) 31 = v278.toInt := (elm_of c187 31).trans (congrArg Int32.toInt (ee279))
        have q282 : elm (S150 7) 33 = v67.toInt := (elm_of c182 33).trans (congrArg Int32.toInt (ee68))
        obtain ⟨v283, ee284⟩ : ∃ z : Int32, f186 33 = z := ⟨_, rfl⟩
        have b285 : Bd v283 (0) (12) := (by rw [← ee284]; exact b188.2.2.2.1 33 (by decide))
        have q286 : elm (S184 7) 33 = v283.toInt := (elm_of c187 33).trans (congrArg Int32.toInt (ee284))
        have q287 : elm (S150 7) 36 = v70.toInt := (elm_of c182 36).trans (congrArg Int32.toInt (ee71))
        obtain ⟨v288, ee289⟩ : ∃ z : Int32, f186 36 = z := ⟨_, rfl⟩
        have b290 : Bd v288 (0) (8) := (by rw [← ee289]; exact b188.2.2.2.2.1 36 (by decide))
        have q291 : elm (S184 7) 36 = v288.toInt := (elm_of c187 36).trans (congrArg Int32.toInt (ee289))
        have q292 : elm (S150 7) 38 = v73.toInt := (elm_of c182 38).trans (congrArg Int32.toInt (ee74))
        obtain ⟨v293, ee294⟩ : ∃ z : Int32, f186 38 = z := ⟨_, rfl⟩
        have b295 : Bd v293 (0) (3) := (by rw [← ee294]; exact b188.2.2.2.2.2.2.1 38 (by decide))
        have q296 : elm (S184 7) 38 = v293.toInt := (elm_of c187 38).trans (congrArg Int32.toInt (ee294))
        have q297 : elm (S150 7) 39 = v118.toInt := (elm_of c182 39).trans (congrArg Int32.toInt (ee119))
        obtain ⟨v298, ee299⟩ : ∃ z : Int32, f186 39 = z := ⟨_, rfl⟩
        have b300 : Bd v298 (0) (40) := (by rw [← ee299]; exact b188.2.2.2.2.2.2.2 39 (by decide))
        have q301 : elm (S184 7) 39 = v298.toInt := (elm_of c187 39).trans (congrArg Int32.toInt (ee299))
        have q302 : elm (S150 6) 1 = v40.toInt := (elm_of c183 1).trans (congrArg Int32.toInt (ee41))
        obtain ⟨f303, c304, b305⟩ := invM_6 hI
        obtain ⟨v306, ee307⟩ : ∃ z : Int32, f303 0 = z := ⟨_, rfl⟩
        have b308 : Bd v306 (0) (40000) := (by rw [← ee307]; exact b305 0)
        have q309 : elm (S184 6) 0 = v306.toInt := (elm_of c304 0).trans (congrArg Int32.toInt (ee307))
        obtain ⟨v310, ee311⟩ : ∃ z : Int32, f303 1 = z := ⟨_, rfl⟩
        have b312 : Bd v310 (0) (40000) := (by rw [← ee311]; exact b305 1)
        have q313 : elm (S184 6) 1 = v310.toInt := (elm_of c304 1).trans (congrArg Int32.toInt (ee311))
        have q314 : elm (S150 6) 2 = v58.toInt := (elm_of c183 2).trans (congrArg Int32.toInt (ee59))
        obtain ⟨v315, ee316⟩ : ∃ z : Int32, f303 2 = z := ⟨_, rfl⟩
        have b317 : Bd v315 (0) (40000) := (by rw [← ee316]; exact b305 2)
        have q318 : elm (S184 6) 2 = v315.toInt := (elm_of c304 2).trans (congrArg Int32.toInt (ee316))
        have q319 : elm (S150 6) 3 = v76.toInt := (elm_of c183 3).trans (congrArg Int32.toInt (ee77))
        obtain ⟨v320, ee321⟩ : ∃ z : Int32, f303 3 = z := ⟨_, rfl⟩
        have b322 : Bd v320 (0) (40000) := (by rw [← ee321]; exact b305 3)
        have q323 : elm (S184 6) 3 = v320.toInt := (elm_of c304 3).trans (congrArg Int32.toInt (ee321))
        refine lv_iconst (v := 0) hx hb dX12_back_40 (by decide) ?_
        exact xri E hr hlk hQ (⟨hI, (o_trans (up_o o_refl eS150 (by decide)) o184 (by decide)), (ib_wk (by decide : Bd 0 (0) (0)) (by decide) (by decide)), (by omega), (by omega), (by omega), (by omega), (by omega), (by omega), (by omega), (by omega), (by omega), (by omega), (by omega), (by omega), (by omega), (by omega), (by omega), (by omega), (by omega), (by omega), (by omega), (by omega), u184_0, u184_1, u184_2, u184_3, u184_4, u184_5, u184_6, u184_7, (by have h1 := u158_0; unfold InP at h1; have e1 := ((congrArg (fun e => elm e a1.toInt.toNat) (up_eq (j := 13) eS150 (by decide))).symm.trans el171); unfold ansBk; rw [if_neg (by omega), if_neg (by omega)])⟩) dX12_back_41
      · subst h179
        have q324 : (2 : Int32).toInt = 2 := by decide
        have q325 : (0 : Int32).toInt = 0 := by decide
        have c326 : S150 7 = .inl (g.2 0, 50, .inl f1) := (up_ne eS150 (by decide) c2)
        have c327 : S150 6 = .inl (g.2 0, 5, .inl f19) := (up_ne eS150 (by decide) c20)
        refine xcVv E hs hQ hml hl.1 0 (gX12_copyShore_2_0 l g ad hD S150 hI (at_tr hAT0 (up_eq (j := 7) eS150 (by decide)) (up_eq (j := 12) eS150 (by decide))) (at_tr hAT1 (up_eq (j := 7) eS150 (by decide)) (up_eq (j := 12) eS150 (by decide))) (at_tr hAT2 (up_eq (j := 7) eS150 (by decide)) (up_eq (j := 12) eS150 (by decide))) (at_tr hAT3 (up_eq (j := 7) eS150 (by decide)) (up_eq (j := 12) eS150 (by decide))) (ht_tr hHT0 (up_eq (j := 7) eS150 (by decide)) (up_eq (j := 9) eS150 (by decide))) (ht_tr hHT1 (up_eq (j := 7) eS150 (by decide)) (up_eq (j := 9) eS150 (by decide))) (ht_tr hHT2 (up_eq (j := 7) eS150 (by decide)) (up_eq (j := 9) eS150 (by decide))) (ht_tr hHT3 (up_eq (j := 7) eS150 (by decide)) (up_eq (j := 9) eS150 (by decide)))) mX12_copyShore q1739 (by decide) c151 rfl rfl ⟨(Nat.le_of_ble_eq_true rfl), (Nat.le_of_ble_eq_true rfl)⟩ ⟨(Nat.le_of_ble_eq_true rfl), (Nat.le_of_ble_eq_true rfl)⟩ (Nat.le_of_ble_eq_true rfl) rfl dX12_back_37 (fun S328 H locs hp328 hQ _ => ?_)
        obtain ⟨hI, o328, g328_0, g328_1, g328_2, g328_3, g328_4, g328_5, g328_6, g328_7, g328_8, g328_9, g328_10, g328_11, g328_12, g328_13, g328_14, g328_15, g328_16, g328_17, g328_18, g328_19, g328_20, g328_21, g328_22, g328_23, g328_24, g328_25, g328_26, g328_27, u328_0, u328_1, u328_2, u328_3, u328_4, u328_5, u328_6, u328_7⟩ := hp328
        have q329 : elm (S150 7) 20 = v46.toInt := (elm_of c326 20).trans (congrArg Int32.toInt (ee47))
        obtain ⟨f330, c331, b332⟩ := invM_7 hI
        obtain ⟨v333, ee334⟩ : ∃ z : Int32, f330 0 = z := ⟨_, rfl⟩
        have b335 : Bd v333 (0) (12) := (by rw [← ee334]; exact b332.1 0 (by decide))
        have q336 : elm (S328 7) 0 = v333.toInt := (elm_of c331 0).trans (congrArg Int32.toInt (ee334))
        have q337 : elm (S150 7) 21 = v43.toInt := (elm_of c326 21).trans (congrArg Int32.toInt (ee44))
        obtain ⟨v338, ee339⟩ : ∃ z : Int32, f330 1 = z := ⟨_, rfl⟩
        have b340 : Bd v338 (0) (12) := (by rw [← ee339]; exact b332.2.1 1 (by decide))
        have q341 : elm (S328 7) 1 = v338.toInt := (elm_of c331 1).trans (congrArg Int32.toInt (ee339))
        have q342 : elm (S150 7) 23 = v49.toInt := (elm_of c326 23).trans (congrArg Int32.toInt (ee50))
        obtain ⟨v343, ee344⟩ : ∃ z : Int32, f330 3 = z := ⟨_, rfl⟩
        have b345 : Bd v343 (0) (12) := (by rw [← ee344]; exact b332.2.2.2.1 3 (by decide))
        have q346 : elm (S328 7) 3 = v343.toInt := (elm_of c331 3).trans (congrArg Int32.toInt (ee344))
        have q347 : elm (S150 7) 26 = v52.toInt := (elm_of c326 26).trans (congrArg Int32.toInt (ee53))
        obtain ⟨v348, ee349⟩ : ∃ z : Int32, f330 6 = z := ⟨_, rfl⟩
        have b350 : Bd v348 (0) (8) := (by rw [← ee349]; exact b332.2.2.2.2.1 6 (by decide))
        have q351 : elm (S328 7) 6 = v348.toInt := (elm_of c331 6).trans (congrArg Int32.toInt (ee349))
        have q352 : elm (S150 7) 28 = v55.toInt := (elm_of c326 28).trans (congrArg Int32.toInt (ee56))
        obtain ⟨v353, ee354⟩ : ∃ z : Int32, f330 8 = z := ⟨_, rfl⟩
        have b355 : Bd v353 (0) (3) := (by rw [← ee354]; exact b332.2.2.2.2.2.2.1 8 (by decide))
        have q356 : elm (S328 7) 8 = v353.toInt := (elm_of c331 8).trans (congrArg Int32.toInt (ee354))
        have q357 : elm (S150 7) 29 = v115.toInt := (elm_of c326 29).trans (congrArg Int32.toInt (ee116))
        obtain ⟨v358, ee359⟩ : ∃ z : Int32, f330 9 = z := ⟨_, rfl⟩
        have b360 : Bd v358 (0) (40) := (by rw [← ee359]; exact b332.2.2.2.2.2.2.2 9 (by decide))
        have q361 : elm (S328 7) 9 = v358.toInt := (elm_of c331 9).trans (congrArg Int32.toInt (ee359))
        have q362 : elm (S150 7) 10 = v28.toInt := (elm_of c326 10).trans (congrArg Int32.toInt (ee29))
        obtain ⟨v363, ee364⟩ : ∃ z : Int32, f330 10 = z := ⟨_, rfl⟩
        have b365 : Bd v363 (0) (12) := (by rw [← ee364]; exact b332.1 10 (by decide))
        have q366 : elm (S328 7) 10 = v363.toInt := (elm_of c331 10).trans (congrArg Int32.toInt (ee364))
        have q367 : elm (S150 7) 11 = v25.toInt := (elm_of c326 11).trans (congrArg Int32.toInt (ee26))
        obtain ⟨v368, ee369⟩ : ∃ z : Int32, f330 11 = z := ⟨_, rfl⟩
        have b370 : Bd v368 (0) (12) := (by rw [← ee369]; exact b332.2.1 11 (by decide))
        have q371 : elm (S328 7) 11 = v368.toInt := (elm_of c331 11).trans (congrArg Int32.toInt (ee369))
        have q372 : elm (S150 7) 13 = v31.toInt := (elm_of c326 13).trans (congrArg Int32.toInt (ee32))
        obtain ⟨v373, ee374⟩ : ∃ z : Int32, f330 13 = z := ⟨_, rfl⟩
        have b375 : Bd v373 (0) (12) := (by rw [← ee374]; exact b332.2.2.2.1 13 (by decide))
        have q376 : elm (S328 7) 13 = v373.toInt := (elm_of c331 13).trans (congrArg Int32.toInt (ee374))
        have q377 : elm (S150 7) 16 = v34.toInt := (elm_of c326 16).trans (congrArg Int32.toInt (ee35))
        obtain ⟨v378, ee379⟩ : ∃ z : Int32, f330 16 = z := ⟨_, rfl⟩
        have b380 : Bd v378 (0) (8) := (by rw [← ee379]; exact b332.2.2.2.2.1 16 (by decide))
        have q381 : elm (S328 7) 16 = v378.toInt := (elm_of c331 16).trans (congrArg Int32.toInt (ee379))
        have q382 : elm (S150 7) 18 = v37.toInt := (elm_of c326 18).trans (congrArg Int32.toInt (ee38))
        obtain ⟨v383, ee384⟩ : ∃ z : Int32, f330 18 = z := ⟨_, rfl⟩
        have b385 : Bd v383 (0) (3) := (by rw [← ee384]; exact b332.2.2.2.2.2.2.1 18 (by decide))
        have q386 : elm (S328 7) 18 = v383.toInt := (elm_of c331 18).trans (congrArg Int32.toInt (ee384))
        have q387 : elm (S150 7) 19 = v112.toInt := (elm_of c326 19).trans (congrArg Int32.toInt (ee113))
        obtain ⟨v388, ee389⟩ : ∃ z : Int32, f330 19 = z := ⟨_, rfl⟩
        have b390 : Bd v388 (0) (40) := (by rw [← ee389]; exact b332.2.2.2.2.2.2.2 19 (by decide))
        have q391 : elm (S328 7) 19 = v388.toInt := (elm_of c331 19).trans (congrArg Int32.toInt (ee389))
        obtain ⟨v392, ee393⟩ : ∃ z : Int32, f330 20 = z := ⟨_, rfl⟩
        have b394 : Bd v392 (0) (12) := (by rw [← ee393]; exact b332.1 20 (by decide))
        have q395 : elm (S328 7) 20 = v392.toInt := (elm_of c331 20).trans (congrArg Int32.toInt (ee393))
        obtain ⟨v396, ee397⟩ : ∃ z : Int32, f330 21 = z := ⟨_, rfl⟩
        have b398 : Bd v396 (0) (12) := (by rw [← ee397]; exact b332.2.1 21 (by decide))
        have q399 : elm (S328 7) 21 = v396.toInt := (elm_of c331 21).trans (congrArg Int32.toInt (ee397))
        obtain ⟨v400, ee401⟩ : ∃ z : Int32, f330 23 = z := ⟨_, rfl⟩
        have b402 : Bd v400 (0) (12) := (by rw [← ee401]; exact b332.2.2.2.1 23 (by decide))
        have q403 : elm (S328 7) 23 = v400.toInt := (elm_of c331 23).trans (congrArg Int32.toInt (ee401))
        obtain ⟨v404, ee405⟩ : ∃ z : Int32, f330 26 = z := ⟨_, rfl⟩
        have b406 : Bd v404 (0) (8) := (by rw [← ee405]; exact b332.2.2.2.2.1 26 (by decide))
        have q407 : elm (S328 7) 26 = v404.toInt := (elm_of c331 26).trans (congrArg Int32.toInt (ee405))
        obtain ⟨v408, ee409⟩ : ∃ z : Int32, f330 28 = z := ⟨_, rfl⟩
        have b410 : Bd v408 (0) (3) := (by rw [← ee409]; exact b332.2.2.2.2.2.2.1 28 (by decide))
        have q411 : elm (S328 7) 28 = v408.toInt := (elm_of c331 28).trans (congrArg Int32.toInt (ee409))
        obtain ⟨v412, ee413⟩ : ∃ z : Int32, f330 29 = z := ⟨_, rfl⟩
        have b414 : Bd v412 (0) (40) := (by rw [← ee413]; exact b332.2.2.2.2.2.2.2 29 (by decide))
        have q415 : elm (S328 7) 29 = v412.toInt := (elm_of c331 29).trans (congrArg Int32.toInt (ee413))
        have q416 : elm (S150 7) 30 = v64.toInt := (elm_of c326 30).trans (congrArg Int32.toInt (ee65))
        obtain ⟨v417, ee418⟩ : ∃ z : Int32, f330 30 = z := ⟨_, rfl⟩
        have b419 : Bd v417 (0) (12) := (by rw [← ee418]; exact b332.1 30 (by decide))
        have q420 : elm (S328 7) 30 = v417.toInt := (elm_of c331 30).trans (congrArg Int32.toInt (ee418))
        have q421 : elm (S150 7) 31 = v61.toInt := (elm_of c326 31).trans (congrArg Int32.toInt (ee62))
        obtain ⟨v422, ee423⟩ : ∃ z : Int32, f330 31 = z := ⟨_, rfl⟩
        have b424 : Bd v422 (0) (12) := (by rw [← ee423]; exact b332.2.1 31 (by decide))
        have q425 : elm (S328 7) 31 = v422.toInt := (elm_of c331 31).trans (congrArg Int32.toInt (ee423))
        have q426 : elm (S150 7) 33 = v67.toInt := (elm_of c326 33).trans (congrArg Int32.toInt (ee68))
        obtain ⟨v427, ee428⟩ : ∃ z : Int32, f330 33 = z := ⟨_, rfl⟩
        have b429 : Bd v427 (0) (12) := (by rw [← ee428]; exact b332.2.2.2.1 33 (by decide))
        have q430 : elm (S328 7) 33 = v427.toInt := (elm_of c331 33).trans (congrArg Int32.toInt (ee428))
        have q431 : elm (S150 7) 36 = v70.toInt := (elm_of c326 36).trans (congrArg Int32.toInt (ee71))
        obtain ⟨v432, ee433⟩ : ∃ z : Int32, f330 36 = z := ⟨_, rfl⟩
        have b434 : Bd v432 (0) (8) := (by rw [← ee433]; exact b332.2.2.2.2.1 36 (by decide))
        have q435 : elm (S328 7) 36 = v432.toInt := (elm_of c331 36).trans (congrArg Int32.toInt (ee433))
        have q436 : elm (S150 7) 38 = v73.toInt := (elm_of c326 38).trans (congrArg Int32.toInt (ee74))
        obtain ⟨v437, ee438⟩ : ∃ z : Int32, f330 38 = z := ⟨_, rfl⟩
        have b439 : Bd v437 (0) (3) := (by rw [← ee438]; exact b332.2.2.2.2.2.2.1 38 (by decide))
        have q440 : elm (S328 7) 38 = v437.toInt := (elm_of c331 38).trans (congrArg Int32.toInt (ee438))
        have q441 : elm (S150 7) 39 = v118.toInt := (elm_of c326 39).trans (congrArg Int32.toInt (ee119))
        obtain ⟨v442, ee443⟩ : ∃ z : Int32, f330 39 = z := ⟨_, rfl⟩
        have b444 : Bd v442 (0) (40) := (by rw [← ee443]; exact b332.2.2.2.2.2.2.2 39 (by decide))
        have q445 : elm (S328 7) 39 = v442.toInt := (elm_of c331 39).trans (congrArg Int32.toInt (ee443))
        have q446 : elm (S150 6) 2 = v58.toInt := (elm_of c327 2).trans (congrArg Int32.toInt (ee59))
        obtain ⟨f447, c448, b449⟩ := invM_6 hI
        obtain ⟨v450, ee451⟩ : ∃ z : Int32, f447 0 = z := ⟨_, rfl⟩
        have b452 : Bd v450 (0) (40000) := (by rw [← ee451]; exact b449 0)
        have q453 : elm (S328 6) 0 = v450.toInt := (elm_of c448 0).trans (congrArg Int32.toInt (ee451))
        have q454 : elm (S150 6) 1 = v40.toInt := (elm_of c327 1).trans (congrArg Int32.toInt (ee41))
        obtain ⟨v455, ee456⟩ : ∃ z : Int32, f447 1 = z := ⟨_, rfl⟩
        have b457 : Bd v455 (0) (40000) := (by rw [← ee456]; exact b449 1)
        have q458 : elm (S328 6) 1 = v455.toInt := (elm_of c448 1).trans (congrArg Int32.toInt (ee456))
        obtain ⟨v459, ee460⟩ : ∃ z : Int32, f447 2 = z := ⟨_, rfl⟩
        have b461 : Bd v459 (0) (40000) := (by rw [← ee460]; exact b449 2)
        have q462 : elm (S328 6) 2 = v459.toInt := (elm_of c448 2).trans (congrArg Int32.toInt (ee460))
        have q463 : elm (S150 6) 3 = v76.toInt := (elm_of c327 3).trans (congrArg Int32.toInt (ee77))
        obtain ⟨v464, ee465⟩ : ∃ z : Int32, f447 3 = z := ⟨_, rfl⟩
        have b466 : Bd v464 (0) (40000) := (by rw [← ee465]; exact b449 3)
        have q467 : elm (S328 6) 3 = v464.toInt := (elm_of c448 3).trans (congrArg Int32.toInt (ee465))
        refine lv_iconst (v := 0) hx hb dX12_back_40 (by decide) ?_
        exact xri E hr hlk hQ (⟨hI, (o_trans (up_o o_refl eS150 (by decide)) o328 (by decide)), (ib_wk (by decide : Bd 0 (0) (0)) (by decide) (by decide)), (by omega), (by omega), (by omega), (by omega), (by omega), (by omega), (by omega), (by omega), (by omega), (by omega), (by omega), (by omega), (by omega), (by omega), (by omega), (by omega), (by omega), (by omega), (by omega), (by omega), u328_0, u328_1, u328_2, u328_3, u328_4, u328_5, u328_6, u328_7, (by have h1 := u158_0; unfold InP at h1; have e1 := ((congrArg (fun e => elm e a1.toInt.toNat) (up_eq (j := 13) eS150 (by decide))).symm.trans el171); unfold ansBk; rw [if_neg (by omega), if_neg (by omega)])⟩) dX12_back_41
      · subst h179
        have q468 : (3 : Int32).toInt = 3 := by decide
        have q469 : (0 : Int32).toInt = 0 := by decide
        have c470 : S150 7 = .inl (g.2 0, 50, .inl f1) := (up_ne eS150 (by decide) c2)
        have c471 : S150 6 = .inl (g.2 0, 5, .inl f19) := (up_ne eS150 (by decide) c20)
        refine xcVv E hs hQ hml hl.1 0 (gX12_copyShore_3_0 l g ad hD S150 hI (at_tr hAT0 (up_eq (j := 7) eS150 (by decide)) (up_eq (j := 12) eS150 (by decide))) (at_tr hAT1 (up_eq (j := 7) eS150 (by decide)) (up_eq (j := 12) eS150 (by decide))) (at_tr hAT2 (up_eq (j := 7) eS150 (by decide)) (up_eq (j := 12) eS150 (by decide))) (at_tr hAT3 (up_eq (j := 7) eS150 (by decide)) (up_eq (j := 12) eS150 (by decide))) (ht_tr hHT0 (up_eq (j := 7) eS150 (by decide)) (up_eq (j := 9) eS150 (by decide))) (ht_tr hHT1 (up_eq (j := 7) eS150 (by decide)) (up_eq (j := 9) eS150 (by decide))) (ht_tr hHT2 (up_eq (j := 7) eS150 (by decide)) (up_eq (j := 9) eS150 (by decide))) (ht_tr hHT3 (up_eq (j := 7) eS150 (by decide)) (up_eq (j := 9) eS150 (by decide)))) mX12_copyShore q1739 (by decide) c151 rfl rfl ⟨(Nat.le_of_ble_eq_true rfl), (Nat.le_of_ble_eq_true rfl)⟩ ⟨(Nat.le_of_ble_eq_true rfl), (Nat.le_of_ble_eq_true rfl)⟩ (Nat.le_of_ble_eq_true rfl) rfl dX12_back_37 (fun S472 H locs hp472 hQ _ => ?_)
        obtain ⟨hI, o472, g472_0, g472_1, g472_2, g472_3, g472_4, g472_5, g472_6, g472_7, g472_8, g472_9, g472_10, g472_11, g472_12, g472_13, g472_14, g472_15, g472_16, g472_17, g472_18, g472_19, g472_20, g472_21, g472_22, g472_23, g472_24, g472_25, g472_26, g472_27, u472_0, u472_1, u472_2, u472_3, u472_4, u472_5, u472_6, u472_7⟩ := hp472
        have q473 : elm (S150 7) 30 = v64.toInt := (elm_of c470 30).trans (congrArg Int32.toInt (ee65))
        obtain ⟨f474, c475, b476⟩ := invM_7 hI
        obtain ⟨v477, ee478⟩ : ∃ z : Int32, f474 0 = z := ⟨_, rfl⟩
        have b479 : Bd v477 (0) (12) := (by rw [← ee478]; exact b476.1 0 (by decide))
        have q480 : elm (S472 7) 0 = v477.toInt := (elm_of c475 0).trans (congrArg Int32.toInt (ee478))
        have q481 : elm (S150 7) 31 = v61.toInt := (elm_of c470 31).trans (congrArg Int32.toInt (ee62))
        obtain ⟨v482, ee483⟩ : ∃ z : Int32, f474 1 = z := ⟨_, rfl⟩
        have b484 : Bd v482 (0) (12) := (by rw [← ee483]; exact b476.2.1 1 (by decide))
        have q485 : elm (S472 7) 1 = v482.toInt := (elm_of c475 1).trans (congrArg Int32.toInt (ee483))
        have q486 : elm (S150 7) 33 = v67.toInt := (elm_of c470 33).trans (congrArg Int32.toInt (ee68))
        obtain ⟨v487, ee488⟩ : ∃ z : Int32, f474 3 = z := ⟨_, rfl⟩
        have b489 : Bd v487 (0) (12) := (by rw [← ee488]; exact b476.2.2.2.1 3 (by decide))
        have q490 : elm (S472 7) 3 = v487.toInt := (elm_of c475 3).trans (congrArg Int32.toInt (ee488))
        have q491 : elm (S150 7) 36 = v70.toInt := (elm_of c470 36).trans (congrArg Int32.toInt (ee71))
        obtain ⟨v492, ee493⟩ : ∃ z : Int32, f474 6 = z := ⟨_, rfl⟩
        have b494 : Bd v492 (0) (8) := (by rw [← ee493]; exact b476.2.2.2.2.1 6 (by decide))
        have q495 : elm (S472 7) 6 = v492.toInt := (elm_of c475 6).trans (congrArg Int32.toInt (ee493))
        have q496 : elm (S150 7) 38 = v73.toInt := (elm_of c470 38).trans (congrArg Int32.toInt (ee74))
        obtain ⟨v497, ee498⟩ : ∃ z : Int32, f474 8 = z := ⟨_, rfl⟩
        have b499 : Bd v497 (0) (3) := (by rw [← ee498]; exact b476.2.2.2.2.2.2.1 8 (by decide))
        have q500 : elm (S472 7) 8 = v497.toInt := (elm_of c475 8).trans (congrArg Int32.toInt (ee498))
        have q501 : elm (S150 7) 39 = v118.toInt := (elm_of c470 39).trans (congrArg Int32.toInt (ee119))
        obtain ⟨v502, ee503⟩ : ∃ z : Int32, f474 9 = z := ⟨_, rfl⟩
        have b504 : Bd v502 (0) (40) := (by rw [← ee503]; exact b476.2.2.2.2.2.2.2 9 (by decide))
        have q505 : elm (S472 7) 9 = v502.toInt := (elm_of c475 9).trans (congrArg Int32.toInt (ee503))
        have q506 : elm (S150 7) 10 = v28.toInt := (elm_of c470 10).trans (congrArg Int32.toInt (ee29))
        obtain ⟨v507, ee508⟩ : ∃ z : Int32, f474 10 = z := ⟨_, rfl⟩
        have b509 : Bd v507 (0) (12) := (by rw [← ee508]; exact b476.1 10 (by decide))
        have q510 : elm (S472 7) 10 = v507.toInt := (elm_of c475 10).trans (congrArg Int32.toInt (ee508))
        have q511 : elm (S150 7) 11 = v25.toInt := (elm_of c470 11).trans (congrArg Int32.toInt (ee26))
        obtain ⟨v512, ee513⟩ : ∃ z : Int32, f474 11 = z := ⟨_, rfl⟩
        have b514 : Bd v512 (0) (12) := (by rw [← ee513]; exact b476.2.1 11 (by decide))
        have q515 : elm (S472 7) 11 = v512.toInt := (elm_of c475 11).trans (congrArg Int32.toInt (ee513))
        have q516 : elm (S150 7) 13 = v31.toInt := (elm_of c470 13).trans (congrArg Int32.toInt (ee32))
        obtain ⟨v517, ee518⟩ : ∃ z : Int32, f474 13 = z := ⟨_, rfl⟩
        have b519 : Bd v517 (0) (12) := (by rw [← ee518]; exact b476.2.2.2.1 13 (by decide))
        have q520 : elm (S472 7) 13 = v517.toInt := (elm_of c475 13).trans (congrArg Int32.toInt (ee518))
        have q521 : elm (S150 7) 16 = v34.toInt := (elm_of c470 16).trans (congrArg Int32.toInt (ee35))
        obtain ⟨v522, ee523⟩ : ∃ z : Int32, f474 16 = z := ⟨_, rfl⟩
        have b524 : Bd v522 (0) (8) := (by rw [← ee523]; exact b476.2.2.2.2.1 16 (by decide))
        have q525 : elm (S472 7) 16 = v522.toInt := (elm_of c475 16).trans (congrArg Int32.toInt (ee523))
        have q526 : elm (S150 7) 18 = v37.toInt := (elm_of c470 18).trans (congrArg Int32.toInt (ee38))
        obtain ⟨v527, ee528⟩ : ∃ z : Int32, f474 18 = z := ⟨_, rfl⟩
        have b529 : Bd v527 (0) (3) := (by rw [← ee528]; exact b476.2.2.2.2.2.2.1 18 (by decide))
        have q530 : elm (S472 7) 18 = v527.toInt := (elm_of c475 18).trans (congrArg Int32.toInt (ee528))
        have q531 : elm (S150 7) 19 = v112.toInt := (elm_of c470 19).trans (congrArg Int32.toInt (ee113))
        obtain ⟨v532, ee533⟩ : ∃ z : Int32, f474 19 = z := ⟨_, rfl⟩
        have b534 : Bd v532 (0) (40) := (by rw [← ee533]; exact b476.2.2.2.2.2.2.2 19 (by decide))
        have q535 : elm (S472 7) 19 = v532.toInt := (elm_of c475 19).trans (congrArg Int32.toInt (ee533))
        have q536 : elm (S150 7) 20 = v46.toInt := (elm_of c470 20).trans (congrArg Int32.toInt (ee47))
        obtain ⟨v537, ee538⟩ : ∃ z : Int32, f474 20 = z := ⟨_, rfl⟩
        have b539 : Bd v537 (0) (12) := (by rw [← ee538]; exact b476.1 20 (by decide))
        have q540 : elm (S472 7) 20 = v537.toInt := (elm_of c475 20).trans (congrArg Int32.toInt (ee538))
        have q541 : elm (S150 7) 21 = v43.toInt := (elm_of c470 21).trans (congrArg Int32.toInt (ee44))
        obtain ⟨v542, ee543⟩ : ∃ z : Int32, f474 21 = z := ⟨_, rfl⟩
        have b544 : Bd v542 (0) (12) := (by rw [← ee543]; exact b476.2.1 21 (by decide))
        have q545 : elm (S472 7) 21 = v542.toInt := (elm_of c475 21).trans (congrArg Int32.toInt (ee543))
        have q546 : elm (S150 7) 23 = v49.toInt := (elm_of c470 23).trans (congrArg Int32.toInt (ee50))
        obtain ⟨v547, ee548⟩ : ∃ z : Int32, f474 23 = z := ⟨_, rfl⟩
        have b549 : Bd v547 (0) (12) := (by rw [← ee548]; exact b476.2.2.2.1 23 (by decide))
        have q550 : elm (S472 7) 23 = v547.toInt := (elm_of c475 23).trans (congrArg Int32.toInt (ee548))
        have q551 : elm (S150 7) 26 = v52.toInt := (elm_of c470 26).trans (congrArg Int32.toInt (ee53))
        obtain ⟨v552, ee553⟩ : ∃ z : Int32, f474 26 = z := ⟨_, rfl⟩
        have b554 : Bd v552 (0) (8) := (by rw [← ee553]; exact b476.2.2.2.2.1 26 (by decide))
        have q555 : elm (S472 7) 26 = v552.toInt := (elm_of c475 26).trans (congrArg Int32.toInt (ee553))
        have q556 : elm (S150 7) 28 = v55.toInt := (elm_of c470 28).trans (congrArg Int32.toInt (ee56))
        obtain ⟨v557, ee558⟩ : ∃ z : Int32, f474 28 = z := ⟨_, rfl⟩
        have b559 : Bd v557 (0) (3) := (by rw [← ee558]; exact b476.2.2.2.2.2.2.1 28 (by decide))
        have q560 : elm (S472 7) 28 = v557.toInt := (elm_of c475 28).trans (congrArg Int32.toInt (ee558))
        have q561 : elm (S150 7) 29 = v115.toInt := (elm_of c470 29).trans (congrArg Int32.toInt (ee116))
        obtain ⟨v562, ee563⟩ : ∃ z : Int32, f474 29 = z := ⟨_, rfl⟩
        have b564 : Bd v562 (0) (40) := (by rw [← ee563]; exact b476.2.2.2.2.2.2.2 29 (by decide))
        have q565 : elm (S472 7) 29 = v562.toInt := (elm_of c475 29).trans (congrArg Int32.toInt (ee563))
        obtain ⟨v566, ee567⟩ : ∃ z : Int32, f474 30 = z := ⟨_, rfl⟩
        have b568 : Bd v566 (0) (12) := (by rw [← ee567]; exact b476.1 30 (by decide))
        have q569 : elm (S472 7) 30 = v566.toInt := (elm_of c475 30).trans (congrArg Int32.toInt (ee567))
        obtain ⟨v570, ee571⟩ : ∃ z : Int32, f474 31 = z := ⟨_, rfl⟩
        have b572 : Bd v570 (0) (12) := (by rw [← ee571]; exact b476.2.1 31 (by decide))
        have q573 : elm (S472 7) 31 = v570.toInt := (elm_of c475 31).trans (congrArg Int32.toInt (ee571))
        obtain ⟨v574, ee575⟩ : ∃ z : Int32, f474 33 = z := ⟨_, rfl⟩
        have b576 : Bd v574 (0) (12) := (by rw [← ee575]; exact b476.2.2.2.1 33 (by decide))
        have q577 : elm (S472 7) 33 = v574.toInt := (elm_of c475 33).trans (congrArg Int32.toInt (ee575))
        obtain ⟨v578, ee579⟩ : ∃ z : Int32, f474 36 = z := ⟨_, rfl⟩
        have b580 : Bd v578 (0) (8) := (by rw [← ee579]; exact b476.2.2.2.2.1 36 (by decide))
        have q581 : elm (S472 7) 36 = v578.toInt := (elm_of c475 36).trans (congrArg Int32.toInt (ee579))
        obtain ⟨v582, ee583⟩ : ∃ z : Int32, f474 38 = z := ⟨_, rfl⟩
        have b584 : Bd v582 (0) (3) := (by rw [← ee583]; exact b476.2.2.2.2.2.2.1 38 (by decide))
        have q585 : elm (S472 7) 38 = v582.toInt := (elm_of c475 38).trans (congrArg Int32.toInt (ee583))
        obtain ⟨v586, ee587⟩ : ∃ z : Int32, f474 39 = z := ⟨_, rfl⟩
        have b588 : Bd v586 (0) (40) := (by rw [← ee587]; exact b476.2.2.2.2.2.2.2 39 (by decide))
        have q589 : elm (S472 7) 39 = v586.toInt := (elm_of c475 39).trans (congrArg Int32.toInt (ee587))
        have q590 : elm (S150 6) 3 = v76.toInt := (elm_of c471 3).trans (congrArg Int32.toInt (ee77))
        obtain ⟨f591, c592, b593⟩ := invM_6 hI
        obtain ⟨v594, ee595⟩ : ∃ z : Int32, f591 0 = z := ⟨_, rfl⟩
        have b596 : Bd v594 (0) (40000) := (by rw [← ee595]; exact b593 0)
        have q597 : elm (S472 6) 0 = v594.toInt := (elm_of c592 0).trans (congrArg Int32.toInt (ee595))
        have q598 : elm (S150 6) 1 = v40.toInt := (elm_of c471 1).trans (congrArg Int32.toInt (ee41))
        obtain ⟨v599, ee600⟩ : ∃ z : Int32, f591 1 = z := ⟨_, rfl⟩
        have b601 : Bd v599 (0) (40000) := (by rw [← ee600]; exact b593 1)
        have q602 : elm (S472 6) 1 = v599.toInt := (elm_of c592 1).trans (congrArg Int32.toInt (ee600))
        have q603 : elm (S150 6) 2 = v58.toInt := (elm_of c471 2).trans (congrArg Int32.toInt (ee59))
        obtain ⟨v604, ee605⟩ : ∃ z : Int32, f591 2 = z := ⟨_, rfl⟩
        have b606 : Bd v604 (0) (40000) := (by rw [← ee605]; exact b593 2)
        have q607 : elm (S472 6) 2 = v604.toInt := (elm_of c592 2).trans (congrArg Int32.toInt (ee605))
        obtain ⟨v608, ee609⟩ : ∃ z : Int32, f591 3 = z := ⟨_, rfl⟩
        have b610 : Bd v608 (0) (40000) := (by rw [← ee609]; exact b593 3)
        have q611 : elm (S472 6) 3 = v608.toInt := (elm_of c592 3).trans (congrArg Int32.toInt (ee609))
        refine lv_iconst (v := 0) hx hb dX12_back_40 (by decide) ?_
        exact xri E hr hlk hQ (⟨hI, (o_trans (up_o o_refl eS150 (by decide)) o472 (by decide)), (ib_wk (by decide : Bd 0 (0) (0)) (by decide) (by decide)), (by omega), (by omega), (by omega), (by omega), (by omega), (by omega), (by omega), (by omega), (by omega), (by omega), (by omega), (by omega), (by omega), (by omega), (by omega), (by omega), (by omega), (by omega), (by omega), (by omega), u472_0, u472_1, u472_2, u472_3, u472_4, u472_5, u472_6, u472_7, (by have h1 := u158_0; unfold InP at h1; have e1 := ((congrArg (fun e => elm e a1.toInt.toNat) (up_eq (j := 13) eS150 (by decide))).symm.trans el171); unfold ansBk; rw [if_neg (by omega), if_neg (by omega)])⟩) dX12_back_41
    · have h612 := ib_eq k172
      have b613 : Bd z168 (0) (0) := ⟨(b170).1, ((rf_eq b170 (by decide : Bd 0 (0) (0)) h612).1).2⟩
      refine lv_bipush (v := (-6)) hx hb dX12_back_29 (by decide) ?_
      have c614 : S150 7 = .inl (g.2 0, 50, .inl f1) := (up_ne eS150 (by decide) c2)
      have q615 : elm (S150 7) 1 = v4.toInt := (elm_of c614 1).trans (congrArg Int32.toInt (ee5))
      have q616 : elm (S150 7) 0 = v7.toInt := (elm_of c614 0).trans (congrArg Int32.toInt (ee8))
      have q617 : elm (S150 7) 3 = v10.toInt := (elm_of c614 3).trans (congrArg Int32.toInt (ee11))
      have q618 : elm (S150 7) 6 = v13.toInt := (elm_of c614 6).trans (congrArg Int32.toInt (ee14))
      have q619 : elm (S150 7) 8 = v16.toInt := (elm_of c614 8).trans (congrArg Int32.toInt (ee17))
      have c620 : S150 6 = .inl (g.2 0, 5, .inl f19) := (up_ne eS150 (by decide) c20)
      have q621 : elm (S150 6) 0 = v22.toInt := (elm_of c620 0).trans (congrArg Int32.toInt (ee23))
      have q622 : elm (S150 7) 11 = v25.toInt := (elm_of c614 11).trans (congrArg Int32.toInt (ee26))
      have q623 : elm (S150 7) 10 = v28.toInt := (elm_of c614 10).trans (congrArg Int32.toInt (ee29))
      have q624 : elm (S150 7) 13 = v31.toInt := (elm_of c614 13).trans (congrArg Int32.toInt (ee32))
      have q625 : elm (S150 7) 16 = v34.toInt := (elm_of c614 16).trans (congrArg Int32.toInt (ee35))
      have q626 : elm (S150 7) 18 = v37.toInt := (elm_of c614 18).trans (congrArg Int32.toInt (ee38))
      have q627 : elm (S150 6) 1 = v40.toInt := (elm_of c620 1).trans (congrArg Int32.toInt (ee41))
      have q628 : elm (S150 7) 21 = v43.toInt := (elm_of c614 21).trans (congrArg Int32.toInt (ee44))
      have q629 : elm (S150 7) 20 = v46.toInt := (elm_of c614 20).trans (congrArg Int32.toInt (ee47))
      have q630 : elm (S150 7) 23 = v49.toInt := (elm_of c614 23).trans (congrArg Int32.toInt (ee50))
      have q631 : elm (S150 7) 26 = v52.toInt := (elm_of c614 26).trans (congrArg Int32.toInt (ee53))
      have q632 : elm (S150 7) 28 = v55.toInt := (elm_of c614 28).trans (congrArg Int32.toInt (ee56))
      have q633 : elm (S150 6) 2 = v58.toInt := (elm_of c620 2).trans (congrArg Int32.toInt (ee59))
      have q634 : elm (S150 7) 31 = v61.toInt := (elm_of c614 31).trans (congrArg Int32.toInt (ee62))
      have q635 : elm (S150 7) 30 = v64.toInt := (elm_of c614 30).trans (congrArg Int32.toInt (ee65))
      have q636 : elm (S150 7) 33 = v67.toInt := (elm_of c614 33).trans (congrArg Int32.toInt (ee68))
      have q637 : elm (S150 7) 36 = v70.toInt := (elm_of c614 36).trans (congrArg Int32.toInt (ee71))
      have q638 : elm (S150 7) 38 = v73.toInt := (elm_of c614 38).trans (congrArg Int32.toInt (ee74))
      have q639 : elm (S150 6) 3 = v76.toInt := (elm_of c620 3).trans (congrArg Int32.toInt (ee77))
      exact xri E hr hlk hQ (⟨hI, (up_o o_refl eS150 (by decide)), (ib_wk (by decide : Bd (-6) (-6) (-6)) (by decide) (by decide)), (by omega), (by omega), (by omega), (by omega), (by omega), (by omega), (by omega), (by omega), (by omega), (by omega), (by omega), (by omega), (by omega), (by omega), (by omega), (by omega), (by omega), (by omega), (by omega), (by omega), (at_tr hAT0 (up_eq (j := 7) eS150 (by decide)) (up_eq (j := 12) eS150 (by decide))), (at_tr hAT1 (up_eq (j := 7) eS150 (by decide)) (up_eq (j := 12) eS150 (by decide))), (at_tr hAT2 (up_eq (j := 7) eS150 (by decide)) (up_eq (j := 12) eS150 (by decide))), (at_tr hAT3 (up_eq (j := 7) eS150 (by decide)) (up_eq (j := 12) eS150 (by decide))), (ht_tr hHT0 (up_eq (j := 7) eS150 (by decide)) (up_eq (j := 9) eS150 (by decide))), (ht_tr hHT1 (up_eq (j := 7) eS150 (by decide)) (up_eq (j := 9) eS150 (by decide))), (ht_tr hHT2 (up_eq (j := 7) eS150 (by decide)) (up_eq (j := 9) eS150 (by decide))), (ht_tr hHT3 (up_eq (j := 7) eS150 (by decide)) (up_eq (j := 9) eS150 (by decide))), (by have h1 := u158_0; unfold InP at h1; have e1 := ((congrArg (fun e => elm e a1.toInt.toNat) (up_eq (j := 13) eS150 (by decide))).symm.trans el171); unfold ansBk; rw [if_neg (by omega), if_pos (by omega)])⟩) dX12_back_31
  · have h640 := ib_eq k159
    have b641 : Bd r158 (0) (0) := ⟨(b158).1, ((rf_eq b158 (by decide : Bd 0 (0) (0)) h640).1).2⟩
    clear g158_0
    refine lv_bipush (v := (-2)) hx hb dX12_back_17 (by decide) ?_
    have c642 : S150 7 = .inl (g.2 0, 50, .inl f1) := (up_ne eS150 (by decide) c2)
    have q643 : elm (S150 7) 1 = v4.toInt := (elm_of c642 1).trans (congrArg Int32.toInt (ee5))
    have q644 : elm (S150 7) 0 = v7.toInt := (elm_of c642 0).trans (congrArg Int32.toInt (ee8))
    have q645 : elm (S150 7) 3 = v10.toInt := (elm_of c642 3).trans (congrArg Int32.toInt (ee11))
    have q646 : elm (S150 7) 6 = v13.toInt := (elm_of c642 6).trans (congrArg Int32.toInt (ee14))
    have q647 : elm (S150 7) 8 = v16.toInt := (elm_of c642 8).trans (congrArg Int32.toInt (ee17))
    have c648 : S150 6 = .inl (g.2 0, 5, .inl f19) := (up_ne eS150 (by decide) c20)
    have q649 : elm (S150 6) 0 = v22.toInt := (elm_of c648 0).trans (congrArg Int32.toInt (ee23))
    have q650 : elm (S150 7) 11 = v25.toInt := (elm_of c642 11).trans (congrArg Int32.toInt (ee26))
    have q651 : elm (S150 7) 10 = v28.toInt := (elm_of c642 10).trans (congrArg Int32.toInt (ee29))
    have q652 : elm (S150 7) 13 = v31.toInt := (elm_of c642 13).trans (congrArg Int32.toInt (ee32))
    have q653 : elm (S150 7) 16 = v34.toInt := (elm_of c642 16).trans (congrArg Int32.toInt (ee35))
    have q654 : elm (S150 7) 18 = v37.toInt := (elm_of c642 18).trans (congrArg Int32.toInt (ee38))
    have q655 : elm (S150 6) 1 = v40.toInt := (elm_of c648 1).trans (congrArg Int32.toInt (ee41))
    have q656 : elm (S150 7) 21 = v43.toInt := (elm_of c642 21).trans (congrArg Int32.toInt (ee44))
    have q657 : elm (S150 7) 20 = v46.toInt := (elm_of c642 20).trans (congrArg Int32.toInt (ee47))
    have q658 : elm (S150 7) 23 = v49.toInt := (elm_of c642 23).trans (congrArg Int32.toInt (ee50))
    have q659 : elm (S150 7) 26 = v52.toInt := (elm_of c642 26).trans (congrArg Int32.toInt (ee53))
    have q660 : elm (S150 7) 28 = v55.toInt := (elm_of c642 28).trans (congrArg Int32.toInt (ee56))
    have q661 : elm (S150 6) 2 = v58.toInt := (elm_of c648 2).trans (congrArg Int32.toInt (ee59))
    have q662 : elm (S150 7) 31 = v61.toInt := (elm_of c642 31).trans (congrArg Int32.toInt (ee62))
    have q663 : elm (S150 7) 30 = v64.toInt := (elm_of c642 30).trans (congrArg Int32.toInt (ee65))
    have q664 : elm (S150 7) 33 = v67.toInt := (elm_of c642 33).trans (congrArg Int32.toInt (ee68))
    have q665 : elm (S150 7) 36 = v70.toInt := (elm_of c642 36).trans (congrArg Int32.toInt (ee71))
    have q666 : elm (S150 7) 38 = v73.toInt := (elm_of c642 38).trans (congrArg Int32.toInt (ee74))
    have q667 : elm (S150 6) 3 = v76.toInt := (elm_of c648 3).trans (congrArg Int32.toInt (ee77))
    exact xri E hr hlk hQ (⟨hI, (up_o o_refl eS150 (by decide)), (ib_wk (by decide : Bd (-2) (-2) (-2)) (by decide) (by decide)), (by omega), (by omega), (by omega), (by omega), (by omega), (by omega), (by omega), (by omega), (by omega), (by omega), (by omega), (by omega), (by omega), (by omega), (by omega), (by omega), (by omega), (by omega), (by omega), (by omega), (at_tr hAT0 (up_eq (j := 7) eS150 (by decide)) (up_eq (j := 12) eS150 (by decide))), (at_tr hAT1 (up_eq (j := 7) eS150 (by decide)) (up_eq (j := 12) eS150 (by decide))), (at_tr hAT2 (up_eq (j := 7) eS150 (by decide)) (up_eq (j := 12) eS150 (by decide))), (at_tr hAT3 (up_eq (j := 7) eS150 (by decide)) (up_eq (j := 12) eS150 (by decide))), (ht_tr hHT0 (up_eq (j := 7) eS150 (by decide)) (up_eq (j := 9) eS150 (by decide))), (ht_tr hHT1 (up_eq (j := 7) eS150 (by decide)) (up_eq (j := 9) eS150 (by decide))), (ht_tr hHT2 (up_eq (j := 7) eS150 (by decide)) (up_eq (j := 9) eS150 (by decide))), (ht_tr hHT3 (up_eq (j := 7) eS150 (by decide)) (up_eq (j := 9) eS150 (by decide))), (by have h1 := u158_0; unfold InP at h1; unfold ansBk; rw [if_pos (by omega)])⟩) dX12_back_19
set_option maxHeartbeats 4000000 in
set_option maxRecDepth 100000 in
theorem gX12_shore_0 (l : Launch) (g : GG) (ad : Nat → Nat) (hD : Dj ad 20) (S : SS) (hI : InvM g ad S) (hq1 : 0 ≤ 12 * elm (S 7) 1 + (-1) * elm (S 7) 0) (hq2 : 0 ≤ 12 * elm (S 7) 3 + (-1) * elm (S 7) 0) (hq3 : 0 ≤ 8 * elm (S 7) 0 + (-1) * elm (S 7) 6) (hq4 : 0 ≤ 3 * elm (S 7) 0 + (-1) * elm (S 7) 8) (hq5 : 0 ≤ 40000 * elm (S 7) 0 + (-1) * elm (S 6) 0) (hq6 : 0 ≤ 12 * elm (S 7) 11 + (-1) * elm (S 7) 10) (hq7 : 0 ≤ 12 * elm (S 7) 13 + (-1) * elm (S 7) 10) (hq8 : 0 ≤ 8 * elm (S 7) 10 + (-1) * elm (S 7) 16) (hq9 : 0 ≤ 3 * elm (S 7) 10 + (-1) * elm (S 7) 18) (hq10 : 0 ≤ 40000 * elm (S 7) 10 + (-1) * elm (S 6) 1) (hq11 : 0 ≤ 12 * elm (S 7) 21 + (-1) * elm (S 7) 20) (hq12 : 0 ≤ 12 * elm (S 7) 23 + (-1) * elm (S 7) 20) (hq13 : 0 ≤ 8 * elm (S 7) 20 + (-1) * elm (S 7) 26) (hq14 : 0 ≤ 3 * elm (S 7) 20 + (-1) * elm (S 7) 28) (hq15 : 0 ≤ 40000 * elm (S 7) 20 + (-1) * elm (S 6) 2) (hq16 : 0 ≤ 12 * elm (S 7) 31 + (-1) * elm (S 7) 30) (hq17 : 0 ≤ 12 * elm (S 7) 33 + (-1) * elm (S 7) 30) (hq18 : 0 ≤ 8 * elm (S 7) 30 + (-1) * elm (S 7) 36) (hq19 : 0 ≤ 3 * elm (S 7) 30 + (-1) * elm (S 7) 38) (hq20 : 0 ≤ 40000 * elm (S 7) 30 + (-1) * elm (S 6) 3) (hq21 : 0 ≤ (-1) * elm (S 7) 9 + 40) (hq22 : 0 ≤ (-1) * elm (S 7) 19 + 40) (hq23 : 0 ≤ (-1) * elm (S 7) 29 + 40) (hq24 : 0 ≤ (-1) * elm (S 7) 39 + 40) (hAT0 : ATp (S 7) (S 12) 0) (hAT1 : ATp (S 7) (S 12) 1) (hAT2 : ATp (S 7) (S 12) 2) (hAT3 : ATp (S 7) (S 12) 3) (hHT0 : HTp (S 7) (S 9) 0) (hHT1 : HTp (S 7) (S 9) 1) (hHT2 : HTp (S 7) (S 9) 2) (hHT3 : HTp (S 7) (S 9) 3) : Met l yX12_shore (wG (.code yX12_shore cX12_shore 1 (some .int))) (Rm 7) (XPre g ad 20 S [.ref (ad 0)]) (va_Qi (fun r S' => InvM g ad S' ∧ (∀ j, j ∉ ([0, 6, 7, 8, 9, 10, 11, 12] : List Nat) → S' j = S j) ∧ Bd r (-4) (4804) ∧ (0 ≤ 12 * elm (S' 7) 1 + (-1) * elm (S' 7) 0) ∧ (0 ≤ 12 * elm (S' 7) 3 + (-1) * elm (S' 7) 0) ∧ (0 ≤ 8 * elm (S' 7) 0 + (-1) * elm (S' 7) 6) ∧ (0 ≤ 3 * elm (S' 7) 0 + (-1) * elm (S' 7) 8) ∧ (0 ≤ 40000 * elm (S' 7) 0 + (-1) * elm (S' 6) 0) ∧ (0 ≤ 12 * elm (S' 7) 11 + (-1) * elm (S' 7) 10) ∧ (0 ≤ 12 * elm (S' 7) 13 + (-1) * elm (S' 7) 10) ∧ (0 ≤ 8 * elm (S' 7) 10 + (-1) * elm (S' 7) 16) ∧ (0 ≤ 3 * elm (S' 7) 10 + (-1) * elm (S' 7) 18) ∧ (0 ≤ 40000 * elm (S' 7) 10 + (-1) * elm (S' 6) 1) ∧ (0 ≤ 12 * elm (S' 7) 21 + (-1) * elm (S' 7) 20) ∧ (0 ≤ 12 * elm (S' 7) 23 + (-1) * elm (S' 7) 20) ∧ (0 ≤ 8 * elm (S' 7) 20 + (-1) * elm (S' 7) 26) ∧ (0 ≤ 3 * elm (S' 7) 20 + (-1) * elm (S' 7) 28) ∧ (0 ≤ 40000 * elm (S' 7) 20 + (-1) * elm (S' 6) 2) ∧ (0 ≤ 12 * elm (S' 7) 31 + (-1) * elm (S' 7) 30) ∧ (0 ≤ 12 * elm (S' 7) 33 + (-1) * elm (S' 7) 30) ∧ (0 ≤ 8 * elm (S' 7) 30 + (-1) * elm (S' 7) 36) ∧ (0 ≤ 3 * elm (S' 7) 30 + (-1) * elm (S' 7) 38) ∧ (0 ≤ 40000 * elm (S' 7) 30 + (-1) * elm (S' 6) 3) ∧ (ATp (S' 7) (S' 12) 0) ∧ (ATp (S' 7) (S' 12) 1) ∧ (ATp (S' 7) (S' 12) 2) ∧ (ATp (S' 7) (S' 12) 3) ∧ (HTp (S' 7) (S' 9) 0) ∧ (HTp (S' 7) (S' 9) 1) ∧ (HTp (S' 7) (S' 9) 2) ∧ (HTp (S' 7) (S' 9) 3)) (QB g ad 20) (FA ad 20)) 0 0 (FA ad 20) := by
  refine xmet cX12_shore "EbbWreckModel" (by decide) rfl (Nat.le_of_ble_eq_true rfl) (fun p e s m below meth c E hr hlk hml hQ ls hl => ?_)
  have hx := E.1
  have hb := E.2.1
  have hs : Sp ad 20 (FA ad 20) := Sp.fa hD
  have hl : lv_has ls 1 [(0, .ref (ad 0))] := hl
  obtain ⟨f1, c2, b3⟩ := invM_7 hI
  obtain ⟨v4, ee5⟩ : ∃ z : Int32, f1 1 = z := ⟨_, rfl⟩
  have b6 : Bd v4 (0) (12) := (by rw [← ee5]; exact b3.2.1 1 (by decide))
  obtain ⟨v7, ee8⟩ : ∃ z : Int32, f1 0 = z := ⟨_, rfl⟩
  have b9 : Bd v7 (0) (12) := (by rw [← ee8]; exact b3.1 0 (by decide))
  obtain ⟨v10, ee11⟩ : ∃ z : Int32, f1 3 = z := ⟨_, rfl⟩
  have b12 : Bd v10 (0) (12) := (by rw [← ee11]; exact b3.2.2.2.1 3 (by decide))
  obtain ⟨v13, ee14⟩ : ∃ z : Int32, f1 6 = z := ⟨_, rfl⟩
  have b15 : Bd v13 (0) (8) := (by rw [← ee14]; exact b3.2.2.2.2.1 6 (by decide))
  obtain ⟨v16, ee17⟩ : ∃ z : Int32, f1 8 = z := ⟨_, rfl⟩
  have b18 : Bd v16 (0) (3) := (by rw [← ee17]; exact b3.2.2.2.2.2.2.1 8 (by decide))
  obtain ⟨f19, c20, b21⟩ := invM_6 hI
  obtain ⟨v22, ee23⟩ : ∃ z : Int32, f19 0 = z := ⟨_, rfl⟩
  have b24 : Bd v22 (0) (40000) := (by rw [← ee23]; exact b21 0)
  obtain ⟨v25, ee26⟩ : ∃ z : Int32, f1 11 = z := ⟨_, rfl⟩
  have b27 : Bd v25 (0) (12) := (by rw [← ee26]; exact b3.2.1 11 (by decide))
  obtain ⟨v28, ee29⟩ : ∃ z : Int32, f1 10 = z := ⟨_, rfl⟩
  have b30 : Bd v28 (0) (12) := (by rw [← ee29]; exact b3.1 10 (by decide))
  obtain ⟨v31, ee32⟩ : ∃ z : Int32, f1 13 = z := ⟨_, rfl⟩
  have b33 : Bd v31 (0) (12) := (by rw [← ee32]; exact b3.2.2.2.1 13 (by decide))
  obtain ⟨v34, ee35⟩ : ∃ z : Int32, f1 16 = z := ⟨_, rfl⟩
  have b36 : Bd v34 (0) (8) := (by rw [← ee35]; exact b3.2.2.2.2.1 16 (by decide))
  obtain ⟨v37, ee38⟩ : ∃ z : Int32, f1 18 = z := ⟨_, rfl⟩
  have b39 : Bd v37 (0) (3) := (by rw [← ee38]; exact b3.2.2.2.2.2.2.1 18 (by decide))
  obtain ⟨v40, ee41⟩ : ∃ z : Int32, f19 1 = z := ⟨_, rfl⟩
  have b42 : Bd v40 (0) (40000) := (by rw [← ee41]; exact b21 1)
  obtain ⟨v43, ee44⟩ : ∃ z : Int32, f1 21 = z := ⟨_, rfl⟩
  have b45 : Bd v43 (0) (12) := (by rw [← ee44]; exact b3.2.1 21 (by decide))
  obtain ⟨v46, ee47⟩ : ∃ z : Int32, f1 20 = z := ⟨_, rfl⟩
  have b48 : Bd v46 (0) (12) := (by rw [← ee47]; exact b3.1 20 (by decide))
  obtain ⟨v49, ee50⟩ : ∃ z : Int32, f1 23 = z := ⟨_, rfl⟩
  have b51 : Bd v49 (0) (12) := (by rw [← ee50]; exact b3.2.2.2.1 23 (by decide))
  obtain ⟨v52, ee53⟩ : ∃ z : Int32, f1 26 = z := ⟨_, rfl⟩
  have b54 : Bd v52 (0) (8) := (by rw [← ee53]; exact b3.2.2.2.2.1 26 (by decide))
  obtain ⟨v55, ee56⟩ : ∃ z : Int32, f1 28 = z := ⟨_, rfl⟩
  have b57 : Bd v55 (0) (3) := (by rw [← ee56]; exact b3.2.2.2.2.2.2.1 28 (by decide))
  obtain ⟨v58, ee59⟩ : ∃ z : Int32, f19 2 = z := ⟨_, rfl⟩
  have b60 : Bd v58 (0) (40000) := (by rw [← ee59]; exact b21 2)
  obtain ⟨v61, ee62⟩ : ∃ z : Int32, f1 31 = z := ⟨_, rfl⟩
  have b63 : Bd v61 (0) (12) := (by rw [← ee62]; exact b3.2.1 31 (by decide))
  obtain ⟨v64, ee65⟩ : ∃ z : Int32, f1 30 = z := ⟨_, rfl⟩
  have b66 : Bd v64 (0) (12) := (by rw [← ee65]; exact b3.1 30 (by decide))
  obtain ⟨v67, ee68⟩ : ∃ z : Int32, f1 33 = z := ⟨_, rfl⟩
  have b69 : Bd v67 (0) (12) := (by rw [← ee68]; exact b3.2.2.2.1 33 (by decide))
  obtain ⟨v70, ee71⟩ : ∃ z : Int32, f1 36 = z := ⟨_, rfl⟩
  have b72 : Bd v70 (0) (8) := (by rw [← ee71]; exact b3.2.2.2.2.1 36 (by decide))
  obtain ⟨v73, ee74⟩ : ∃ z : Int32, f1 38 = z := ⟨_, rfl⟩
  have b75 : Bd v73 (0) (3) := (by rw [← ee74]; exact b3.2.2.2.2.2.2.1 38 (by decide))
  obtain ⟨v76, ee77⟩ : ∃ z : Int32, f19 3 = z := ⟨_, rfl⟩
  have b78 : Bd v76 (0) (40000) := (by rw [← ee77]; exact b21 3)
  obtain ⟨v79, ee80⟩ : ∃ z : Int32, f1 9 = z := ⟨_, rfl⟩
  have b81 : Bd v79 (0) (40) := (by rw [← ee80]; exact b3.2.2.2.2.2.2.2 9 (by decide))
  obtain ⟨v82, ee83⟩ : ∃ z : Int32, f1 19 = z := ⟨_, rfl⟩
  have b84 : Bd v82 (0) (40) := (by rw [← ee83]; exact b3.2.2.2.2.2.2.2 19 (by decide))
  obtain ⟨v85, ee86⟩ : ∃ z : Int32, f1 29 = z := ⟨_, rfl⟩
  have b87 : Bd v85 (0) (40) := (by rw [← ee86]; exact b3.2.2.2.2.2.2.2 29 (by decide))
  obtain ⟨v88, ee89⟩ : ∃ z : Int32, f1 39 = z := ⟨_, rfl⟩
  have b90 : Bd v88 (0) (40) := (by rw [← ee89]; exact b3.2.2.2.2.2.2.2 39 (by decide))
  have q91 : elm (S 7) 1 = v4.toInt := (elm_of c2 1).trans (congrArg Int32.toInt (ee5))
  have q92 : elm (S 7) 0 = v7.toInt := (elm_of c2 0).trans (congrArg Int32.toInt (ee8))
  have q93 : elm (S 7) 3 = v10.toInt := (elm_of c2 3).trans (congrArg Int32.toInt (ee11))
  have q94 : elm (S 7) 6 = v13.toInt := (elm_of c2 6).trans (congrArg Int32.toInt (ee14))
  have q95 : elm (S 7) 8 = v16.toInt := (elm_of c2 8).trans (congrArg Int32.toInt (ee17))
  have q96 : elm (S 6) 0 = v22.toInt := (elm_of c20 0).trans (congrArg Int32.toInt (ee23))
  have q97 : elm (S 7) 11 = v25.toInt := (elm_of c2 11).trans (congrArg Int32.toInt (ee26))
  have q98 : elm (S 7) 10 = v28.toInt := (elm_of c2 10).trans (congrArg Int32.toInt (ee29))
  have q99 : elm (S 7) 13 = v31.toInt := (elm_of c2 13).trans (congrArg Int32.toInt (ee32))
  have q100 : elm (S 7) 16 = v34.toInt := (elm_of c2 16).trans (congrArg Int32.toInt (ee35))
  have q101 : elm (S 7) 18 = v37.toInt := (elm_of c2 18).trans (congrArg Int32.toInt (ee38))
  have q102 : elm (S 6) 1 = v40.toInt := (elm_of c20 1).trans (congrArg Int32.toInt (ee41))
  have q103 : elm (S 7) 21 = v43.toInt := (elm_of c2 21).trans (congrArg Int32.toInt (ee44))
  have q104 : elm (S 7) 20 = v46.toInt := (elm_of c2 20).trans (congrArg Int32.toInt (ee47))
  have q105 : elm (S 7) 23 = v49.toInt := (elm_of c2 23).trans (congrArg Int32.toInt (ee50))
  have q106 : elm (S 7) 26 = v52.toInt := (elm_of c2 26).trans (congrArg Int32.toInt (ee53))
  have q107 : elm (S 7) 28 = v55.toInt := (elm_of c2 28).trans (congrArg Int32.toInt (ee56))
  have q108 : elm (S 6) 2 = v58.toInt := (elm_of c20 2).trans (congrArg Int32.toInt (ee59))
  have q109 : elm (S 7) 31 = v61.toInt := (elm_of c2 31).trans (congrArg Int32.toInt (ee62))
  have q110 : elm (S 7) 30 = v64.toInt := (elm_of c2 30).trans (congrArg Int32.toInt (ee65))
  have q111 : elm (S 7) 33 = v67.toInt := (elm_of c2 33).trans (congrArg Int32.toInt (ee68))
  have q112 : elm (S 7) 36 = v70.toInt := (elm_of c2 36).trans (congrArg Int32.toInt (ee71))
  have q113 : elm (S 7) 38 = v73.toInt := (elm_of c2 38).trans (congrArg Int32.toInt (ee74))
  have q114 : elm (S 6) 3 = v76.toInt := (elm_of c20 3).trans (congrArg Int32.toInt (ee77))
  have q115 : elm (S 7) 9 = v79.toInt := (elm_of c2 9).trans (congrArg Int32.toInt (ee80))
  have q116 : elm (S 7) 19 = v82.toInt := (elm_of c2 19).trans (congrArg Int32.toInt (ee83))
  have q117 : elm (S 7) 29 = v85.toInt := (elm_of c2 29).trans (congrArg Int32.toInt (ee86))
  have q118 : elm (S 7) 39 = v88.toInt := (elm_of c2 39).trans (congrArg Int32.toInt (ee89))
  have ef7_0 : EFp (S 7) (S 7) 0 40 := fun _ _ _ => rfl
  have ef6_0 : EFp (S 6) (S 6) 0 4 := fun _ _ _ => rfl
  have ef9_0 : EFp (S 9) (S 9) 0 96 := fun _ _ _ => rfl
  obtain ⟨f119, c120, b121⟩ := invM_12 hI
  obtain ⟨f122, c123, b124⟩ := invM_9 hI
  refine lv_aload_n hx hb dX12_shore_0 rfl (lv_at hl 0 rfl) ?_
  refine lv_iconst (v := 0) hx hb dX12_shore_1 (by decide) ?_
  obtain ⟨v125, v126, v128, v130, v132, v133, w134, v135, v137, v138, v139, v140, v142, v144, v146, v148, v150, v151, v152, c153, b127, b129, b131, b136, b141, b143, b145, b147, b149⟩ := invM_0 hI
  have c153 : S 0 = .inr (12, [.int v125, .ref (ad 1), .ref (ad 2), .ref (ad 3), .ref (ad 4), .ref (ad 5), .int v126, .int v128, .int v130, .int v132, .int v133, .long w134, .int v135, .int v137, .int v138, .int v139, .ref (ad 6), .ref (ad 7), .ref (ad 8), .ref (ad 9), .ref (ad 10), .ref (ad 11), .ref (ad 12), .ref (ad 13), .ref (ad 14), .ref (ad 15), .int v140, .int v142, .ref (ad 16), .int v144, .int v146, .int v148, .int v150, .int v151, .ref (ad 17), .ref (ad 18), .int v152, .ref (ad 19)]) := c153
  refine xputi E hs hQ 0 (by decide) c153 rfl 0 (by decide) q1468 rfl rfl (Nat.le_of_ble_eq_true rfl) dX12_shore_2 (fun H locs S154 eS154 hQ => ?_)
  have hI := invM_up_0 hI eS154 ⟨0, v126, v128, v130, v132, v133, w134, v135, v137, v138, v139, v140, v142, v144, v146, v148, v150, v151, v152, rfl, b127, b129, b131, b136, b141, b143, b145, b147, b149⟩
  have c155 : S154 0 = .inr (12, [.int 0, .ref (ad 1), .ref (ad 2), .ref (ad 3), .ref (ad 4), .ref (ad 5), .int v126, .int v128, .int v130, .int v132, .int v133, .long w134, .int v135, .int v137, .int v138, .int v139, .ref (ad 6), .ref (ad 7), .ref (ad 8), .ref (ad 9), .ref (ad 10), .ref (ad 11), .ref (ad 12), .ref (ad 13), .ref (ad 14), .ref (ad 15), .int v140, .int v142, .ref (ad 16), .int v144, .int v146, .int v148, .int v150, .int v151, .ref (ad 17), .ref (ad 18), .int v152, .ref (ad 19)]) := up_at eS154 rfl
  refine lv_aload_n hx hb dX12_shore_5 rfl (lv_at hl 0 rfl) ?_
  refine xcVv E hs hQ hml hl.1 0 (gX12_clears_0 l g ad hD S154 hI ) mX12_clears q1625 (by decide) c155 rfl rfl ⟨(Nat.le_of_ble_eq_true rfl), (Nat.le_of_ble_eq_true rfl)⟩ ⟨(Nat.le_of_ble_eq_true rfl), (Nat.le_of_ble_eq_true rfl)⟩ (Nat.le_of_ble_eq_true rfl) rfl dX12_shore_6 (fun S156 H locs hp156 hQ _ => ?_)
  obtain ⟨hI, o156, g156_0, g156_1, g156_2, g156_3, g156_4, g156_5, g156_6, g156_7, ef156_7, ef156_6⟩ := hp156
  have ef157 : EFp (S156 7) (S 7) 0 40 := ef_tt ef156_7 (ef_tr ef7_0 (up_eq (j := 7) eS154 (by decide)))
  have ef158 : EFp (S156 6) (S 6) 0 4 := ef_tt ef156_6 (ef_tr ef6_0 (up_eq (j := 6) eS154 (by decide)))
  obtain ⟨f159, c160, b161⟩ := invM_7 hI
  obtain ⟨v162, ee163⟩ : ∃ z : Int32, f159 40 = z := ⟨_, rfl⟩
  have b164 : Bd v162 (0) (12) := (by rw [← ee163]; exact b161.1 40 (by decide))
  have q165 : elm (S156 7) 40 = v162.toInt := (elm_of c160 40).trans (congrArg Int32.toInt (ee163))
  have b166 : Bd v162 (0) (0) := ⟨(b164).1, by omega⟩
  obtain ⟨v167, ee168⟩ : ∃ z : Int32, f159 41 = z := ⟨_, rfl⟩
  have b169 : Bd v167 (0) (12) := (by rw [← ee168]; exact b161.2.1 41 (by decide))
  have q170 : elm (S156 7) 41 = v167.toInt := (elm_of c160 41).trans (congrArg Int32.toInt (ee168))
  have b171 : Bd v167 (0) (0) := ⟨(b169).1, by omega⟩
  obtain ⟨v172, ee173⟩ : ∃ z : Int32, f159 43 = z := ⟨_, rfl⟩
  have b174 : Bd v172 (0) (12) := (by rw [← ee173]; exact b161.2.2.2.1 43 (by decide))
  have q175 : elm (S156 7) 43 = v172.toInt := (elm_of c160 43).trans (congrArg Int32.toInt (ee173))
  have b176 : Bd v172 (0) (0) := ⟨(b174).1, by omega⟩
  obtain ⟨v177, ee178⟩ : ∃ z : Int32, f159 46 = z := ⟨_, rfl⟩
  have b179 : Bd v177 (0) (8) := (by rw [← ee178]; exact b161.2.2.2.2.1 46 (by decide))
  have q180 : elm (S156 7) 46 = v177.toInt := (elm_of c160 46).trans (congrArg Int32.toInt (ee178))
  have b181 : Bd v177 (0) (0) := ⟨(b179).1, by omega⟩
  obtain ⟨v182, ee183⟩ : ∃ z : Int32, f159 47 = z := ⟨_, rfl⟩
  have b184 : Bd v182 (0) (6) := (by rw [← ee183]; exact b161.2.2.2.2.2.1 47 (by decide))
  have q185 : elm (S156 7) 47 = v182.toInt := (elm_of c160 47).trans (congrArg Int32.toInt (ee183))
  have b186 : Bd v182 (0) (0) := ⟨(b184).1, by omega⟩
  obtain ⟨v187, ee188⟩ : ∃ z : Int32, f159 48 = z := ⟨_, rfl⟩
  have b189 : Bd v187 (0) (3) := (by rw [← ee188]; exact b161.2.2.2.2.2.2.1 48 (by decide))
  have q190 : elm (S156 7) 48 = v187.toInt := (elm_of c160 48).trans (congrArg Int32.toInt (ee188))
  have b191 : Bd v187 (0) (0) := ⟨(b189).1, by omega⟩
  obtain ⟨v192, ee193⟩ : ∃ z : Int32, f159 49 = z := ⟨_, rfl⟩
  have b194 : Bd v192 (0) (40) := (by rw [← ee193]; exact b161.2.2.2.2.2.2.2 49 (by decide))
  have q195 : elm (S156 7) 49 = v192.toInt := (elm_of c160 49).trans (congrArg Int32.toInt (ee193))
  have b196 : Bd v192 (0) (0) := ⟨(b194).1, by omega⟩
  obtain ⟨f197, c198, b199⟩ := invM_6 hI
  obtain ⟨v200, ee201⟩ : ∃ z : Int32, f197 4 = z := ⟨_, rfl⟩
  have b202 : Bd v200 (0) (40000) := (by rw [← ee201]; exact b199 4)
  have q203 : elm (S156 6) 4 = v200.toInt := (elm_of c198 4).trans (congrArg Int32.toInt (ee201))
  have b204 : Bd v200 (0) (0) := ⟨(b202).1, by omega⟩
  refine lv_aload_n hx hb dX12_shore_9 rfl (lv_at hl 0 rfl) ?_
  have c205 : S156 0 = .inr (12, [.int 0, .ref (ad 1), .ref (ad 2), .ref (ad 3), .ref (ad 4), .ref (ad 5), .int v126, .int v128, .int v130, .int v132, .int v133, .long w134, .int v135, .int v137, .int v138, .int v139, .ref (ad 6), .ref (ad 7), .ref (ad 8), .ref (ad 9), .ref (ad 10), .ref (ad 11), .ref (ad 12), .ref (ad 13), .ref (ad 14), .ref (ad 15), .int v140, .int v142, .ref (ad 16), .int v144, .int v146, .int v148, .int v150, .int v151, .ref (ad 17), .ref (ad 18), .int v152, .ref (ad 19)]) := ((o156 0 (by decide)).trans c155)
  refine xcVv E hs hQ hml hl.1 0 (gX12_begins_0 l g ad hD S156 hI ) mX12_begins q1633 (by decide) c205 rfl rfl ⟨(Nat.le_of_ble_eq_true rfl), (Nat.le_of_ble_eq_true rfl)⟩ ⟨(Nat.le_of_ble_eq_true rfl), (Nat.le_of_ble_eq_true rfl)⟩ (Nat.le_of_ble_eq_true rfl) rfl dX12_shore_10 (fun S206 H locs hp206 hQ _ => ?_)
  obtain ⟨hI, o206, g206_0, g206_1, g206_2⟩ := hp206
  obtain ⟨v207, v208, v210, v212, v214, v215, w216, v217, v219, v220, v221, v222, v224, v226, v228, v230, v232, v233, v234, c235, b209, b211, b213, b218, b223, b225, b227, b229, b231⟩ := invM_0 hI
  have c235 : S206 0 = .inr (12, [.int v207, .ref (ad 1), .ref (ad 2), .ref (ad 3), .ref (ad 4), .ref (ad 5), .int v208, .int v210, .int v212, .int v214, .int v215, .long w216, .int v217, .int v219, .int v220, .int v221, .ref (ad 6), .ref (ad 7), .ref (ad 8), .ref (ad 9), .ref (ad 10), .ref (ad 11), .ref (ad 12), .ref (ad 13), .ref (ad 14), .ref (ad 15), .int v222, .int v224, .ref (ad 16), .int v226, .int v228, .int v230, .int v232, .int v233, .ref (ad 17), .ref (ad 18), .int v234, .ref (ad 19)]) := c235
  have q236 : fld (S206 0) 6 = v208.toInt := fld_of c235 rfl
  have q237 : fld (S206 0) 7 = v210.toInt := fld_of c235 rfl
  have q238 : fld (S156 0) 6 = v126.toInt := fld_of c205 rfl
  have q239 : fld (S206 0) 12 = v217.toInt := fld_of c235 rfl
  have b240 : Bd v217 (0) (0) := ⟨(b218).1, by omega⟩
  have c241 : S206 7 = .inl (g.2 0, 50, .inl f159) := ((o206 7 (by decide)).trans c160)
  have c242 : S206 6 = .inl (g.2 0, 5, .inl f197) := ((o206 6 (by decide)).trans c198)
  have loop13 : ∀ (n : Nat) (S_13 : SS) (H : Heap) (locs : List Loc) (ls : Array Slot) (y13_0_0 : Int32) (y13_0_6 : Int32) (y13_0_7 : Int32) (y13_0_8 : Int32) (y13_0_9 : Int32) (y13_0_10 : Int32) (wy13_0_11 : Int64) (y13_0_12 : Int32) (y13_0_13 : Int32) (y13_0_14 : Int32) (y13_0_15 : Int32) (y13_0_26 : Int32) (y13_0_27 : Int32) (y13_0_29 : Int32) (y13_0_30 : Int32) (y13_0_31 : Int32) (y13_0_32 : Int32) (y13_0_33 : Int32) (y13_0_36 : Int32) (ye13_7_40 : Int32) (ye13_7_41 : Int32) (ye13_7_43 : Int32) (ye13_7_46 : Int32) (ye13_7_47 : Int32) (ye13_7_48 : Int32) (ye13_7_49 : Int32) (ye13_6_4 : Int32), Bd y13_0_6 (0) (1200) → Bd y13_0_7 (0) (1200) → Bd y13_0_8 (0) (4) → Bd y13_0_12 (0) (3) → Bd y13_0_26 (0) (11) → Bd y13_0_27 (-1) (400) → Bd y13_0_29 (0) (2) → Bd y13_0_30 (0) (11) → Bd y13_0_31 (-1) (468) → Bd ye13_7_40 (0) (12) → Bd ye13_7_41 (0) (12) → Bd ye13_7_43 (0) (12) → Bd ye13_7_46 (0) (8) → Bd ye13_7_47 (0) (6) → Bd ye13_7_48 (0) (3) → Bd ye13_7_49 (0) (0) → Bd ye13_6_4 (0) (100000) → 0 ≤ y13_0_6.toInt + (-1) * y13_0_7.toInt → 0 ≤ (-1) * ye13_7_49.toInt → 0 ≤ ye13_7_49.toInt → 0 ≤ 8 * ye13_6_4.toInt + (-1) * ye13_7_46.toInt → 0 ≤ (-1) * ye13_6_4.toInt + (-4) * y13_0_6.toInt + 4 * y13_0_7.toInt + (-1) * y13_0_8.toInt + 10000 * y13_0_12.toInt + 4804 → 0 ≤ 12 * ye13_7_41.toInt + (-1) * ye13_7_40.toInt → 0 ≤ 12 * ye13_7_43.toInt + (-1) * ye13_7_40.toInt → 0 ≤ 8 * ye13_7_40.toInt + (-1) * ye13_7_46.toInt → 0 ≤ 3 * ye13_7_40.toInt + (-1) * ye13_7_48.toInt → 0 ≤ 40000 * ye13_7_40.toInt + (-1) * ye13_6_4.toInt → 4 * y13_0_6.toInt + (-4) * y13_0_7.toInt + y13_0_8.toInt + (-10000) * y13_0_12.toInt + 30000 < ((n : Nat) : Int) → InvM g ad S_13 → (∀ j, j ∉ ([0, 6, 7, 8, 9, 10, 11] : List Nat) → S_13 j = S206 j) → S_13 0 = .inr (12, [.int y13_0_0, .ref (ad 1), .ref (ad 2), .ref (ad 3), .ref (ad 4), .ref (ad 5), .int y13_0_6, .int y13_0_7, .int y13_0_8, .int y13_0_9, .int y13_0_10, .long wy13_0_11, .int y13_0_12, .int y13_0_13, .int y13_0_14, .int y13_0_15, .ref (ad 6), .ref (ad 7), .ref (ad 8), .ref (ad 9), .ref (ad 10), .ref (ad 11), .ref (ad 12), .ref (ad 13), .ref (ad 14), .ref (ad 15), .int y13_0_26, .int y13_0_27, .ref (ad 16), .int y13_0_29, .int y13_0_30, .int y13_0_31, .int y13_0_32, .int y13_0_33, .ref (ad 17), .ref (ad 18), .int y13_0_36, .ref (ad 19)]) → EFp (S_13 7) (S 7) 0 40 → EFp (S_13 6) (S 6) 0 4 → EFp (S_13 9) (S 9) 0 96 → elm (S_13 7) 40 = ye13_7_40.toInt → elm (S_13 7) 41 = ye13_7_41.toInt → elm (S_13 7) 43 = ye13_7_43.toInt → elm (S_13 7) 46 = ye13_7_46.toInt → elm (S_13 7) 47 = ye13_7_47.toInt → elm (S_13 7) 48 = ye13_7_48.toInt → elm (S_13 7) 49 = ye13_7_49.toInt → elm (S_13 6) 4 = ye13_6_4.toInt → HTp (S_13 7) (S_13 9) 4 → Hp g ad 20 S_13 (FA ad 20) s.heap H locs → lv_has ls 1 [(0, .ref (ad 0))] → W p l e (Rm 7) s m [.ref (ad 0)].toArray below meth c H locs 0 0 (MQ below (va_Qi (fun r S' => InvM g ad S' ∧ (∀ j, j ∉ ([0, 6, 7, 8, 9, 10, 11, 12] : List Nat) → S' j = S j) ∧ Bd r (-4) (4804) ∧ (0 ≤ 12 * elm (S' 7) 1 + (-1) * elm (S' 7) 0) ∧ (0 ≤ 12 * elm (S' 7) 3 + (-1) * elm (S' 7) 0) ∧ (0 ≤ 8 * elm (S' 7) 0 + (-1) * elm (S' 7) 6) ∧ (0 ≤ 3 * elm (S' 7) 0 + (-1) * elm (S' 7) 8) ∧ (0 ≤ 40000 * elm (S' 7) 0 + (-1) * elm (S' 6) 0) ∧ (0 ≤ 12 * elm (S' 7) 11 + (-1) * elm (S' 7) 10) ∧ (0 ≤ 12 * elm (S' 7) 13 + (-1) * elm (S' 7) 10) ∧ (0 ≤ 8 * elm (S' 7) 10 + (-1) * elm (S' 7) 16) ∧ (0 ≤ 3 * elm (S' 7) 10 + (-1) * elm (S' 7) 18) ∧ (0 ≤ 40000 * elm (S' 7) 10 + (-1) * elm (S' 6) 1) ∧ (0 ≤ 12 * elm (S' 7) 21 + (-1) * elm (S' 7) 20) ∧ (0 ≤ 12 * elm (S' 7) 23 + (-1) * elm (S' 7) 20) ∧ (0 ≤ 8 * elm (S' 7) 20 + (-1) * elm (S' 7) 26) ∧ (0 ≤ 3 * elm (S' 7) 20 + (-1) * elm (S' 7) 28) ∧ (0 ≤ 40000 * elm (S' 7) 20 + (-1) * elm (S' 6) 2) ∧ (0 ≤ 12 * elm (S' 7) 31 + (-1) * elm (S' 7) 30) ∧ (0 ≤ 12 * elm (S' 7) 33 + (-1) * elm (S' 7) 30) ∧ (0 ≤ 8 * elm (S' 7) 30 + (-1) * elm (S' 7) 36) ∧ (0 ≤ 3 * elm (S' 7) 30 + (-1) * elm (S' 7) 38) ∧ (0 ≤ 40000 * elm (S' 7) 30 + (-1) * elm (S' 6) 3) ∧ (ATp (S' 7) (S' 12) 0) ∧ (ATp (S' 7) (S' 12) 1) ∧ (ATp (S' 7) (S' 12) 2) ∧ (ATp (S' 7) (S' 12) 3) ∧ (HTp (S' 7) (S' 9) 0) ∧ (HTp (S' 7) (S' 9) 1) ∧ (HTp (S' 7) (S' 9) 2) ∧ (HTp (S' 7) (S' 9) 3)) (QB g ad 20) (FA ad 20)) [.ref (ad 0)].toArray s 0 0 (FA ad 20)) (F0 m 13 ls []) := by
    intro n
    induction n with
    | zero => intro S_13 H locs ls y13_0_0 y13_0_6 y13_0_7 y13_0_8 y13_0_9 y13_0_10 wy13_0_11 y13_0_12 y13_0_13 y13_0_14 y13_0_15 y13_0_26 y13_0_27 y13_0_29 y13_0_30 y13_0_31 y13_0_32 y13_0_33 y13_0_36 ye13_7_40 ye13_7_41 ye13_7_43 ye13_7_46 ye13_7_47 ye13_7_48 ye13_7_49 ye13_6_4 By13_0_6 By13_0_7 By13_0_8 By13_0_12 By13_0_26 By13_0_27 By13_0_29 By13_0_30 By13_0_31 Bye13_7_40 Bye13_7_41 Bye13_7_43 Bye13_7_46 Bye13_7_47 Bye13_7_48 Bye13_7_49 Bye13_6_4 C13_0 C13_1 C13_2 C13_3 C13_4 C13_5 C13_6 C13_7 C13_8 C13_9 hn13_ hI hf13 cl13_0 hE13_7 hE13_6 hE13_9 hy13_7_40 hy13_7_41 hy13_7_43 hy13_7_46 hy13_7_47 hy13_7_48 hy13_7_49 hy13_6_4 hC13 hQ hl; exfalso; omega
    | succ n13_ ih13 =>
      intro S_13 H locs ls y13_0_0 y13_0_6 y13_0_7 y13_0_8 y13_0_9 y13_0_10 wy13_0_11 y13_0_12 y13_0_13 y13_0_14 y13_0_15 y13_0_26 y13_0_27 y13_0_29 y13_0_30 y13_0_31 y13_0_32 y13_0_33 y13_0_36 ye13_7_40 ye13_7_41 ye13_7_43 ye13_7_46 ye13_7_47 ye13_7_48 ye13_7_49 ye13_6_4 By13_0_6 By13_0_7 By13_0_8 By13_0_12 By13_0_26 By13_0_27 By13_0_29 By13_0_30 By13_0_31 Bye13_7_40 Bye13_7_41 Bye13_7_43 Bye13_7_46 Bye13_7_47 Bye13_7_48 Bye13_7_49 Bye13_6_4 C13_0 C13_1 C13_2 C13_3 C13_4 C13_5 C13_6 C13_7 C13_8 C13_9 hn13_ hI hf13 cl13_0 hE13_7 hE13_6 hE13_9 hy13_7_40 hy13_7_41 hy13_7_43 hy13_7_46 hy13_7_47 hy13_7_48 hy13_7_49 hy13_6_4 hC13 hQ hl
      have b243 : Bd ye13_6_4 (0) (34804) := ⟨(Bye13_6_4).1, by omega⟩
      refine lv_aload_n hx hb dX12_shore_13 rfl (lv_at hl 0 rfl) ?_
      refine xcVi E hs hQ hml hl.1 0 (gX12_isGood_0 l g ad hD S_13 hI ) mX12_isGood q1650 (by decide) cl13_0 rfl rfl ⟨(Nat.le_of_ble_eq_true rfl), (Nat.le_of_ble_eq_true rfl)⟩ ⟨(Nat.le_of_ble_eq_true rfl), (Nat.le_of_ble_eq_true rfl)⟩ (Nat.le_of_ble_eq_true rfl) rfl dX12_shore_14 (fun r244 S244 H locs hp244 hQ _ => ?_)
      obtain ⟨rfl, b244, g244_0, g244_1⟩ := hp244
      have q245 : fld (S_13 0) 12 = y13_0_12.toInt := fld_of cl13_0 rfl
      refine lv_if_eq (tgt := 149) hx hb dX12_shore_17 (by decide) (fun k246 => ?_) (fun k246 => ?_)
      · have h247 := ib_eq k246
        have b248 : Bd r244 (0) (0) := ⟨(b244).1, ((rf_eq b244 (by decide : Bd 0 (0) (0)) h247).1).2⟩
        clear g244_0
        have g249 := g244_1.resolve_left (by omega)
        clear g244_1
        have b250 : Bd y13_0_12 (1) (3) := ⟨by omega, (By13_0_12).2⟩
        refine lv_aload_n hx hb dX12_shore_149 rfl (lv_at hl 0 rfl) ?_
        refine xcVv E hs hQ hml hl.1 0 (gX12_isOver_0 l g ad hD S_13 hI ) mX12_isOver q1735 (by decide) cl13_0 rfl rfl ⟨(Nat.le_of_ble_eq_true rfl), (Nat.le_of_ble_eq_true rfl)⟩ ⟨(Nat.le_of_ble_eq_true rfl), (Nat.le_of_ble_eq_true rfl)⟩ (Nat.le_of_ble_eq_true rfl) rfl dX12_shore_150 (fun S251 H locs hp251 hQ _ => ?_)
        obtain ⟨hI, o251, g251_0⟩ := hp251
        obtain ⟨v252, v253, v255, v257, v259, v260, w261, v262, v264, v265, v266, v267, v269, v271, v273, v275, v277, v278, v279, c280, b254, b256, b258, b263, b268, b270, b272, b274, b276⟩ := invM_0 hI
        have c280 : S251 0 = .inr (12, [.int v252, .ref (ad 1), .ref (ad 2), .ref (ad 3), .ref (ad 4), .ref (ad 5), .int v253, .int v255, .int v257, .int v259, .int v260, .long w261, .int v262, .int v264, .int v265, .int v266, .ref (ad 6), .ref (ad 7), .ref (ad 8), .ref (ad 9), .ref (ad 10), .ref (ad 11), .ref (ad 12), .ref (ad 13), .ref (ad 14), .ref (ad 15), .int v267, .int v269, .ref (ad 16), .int v271, .int v273, .int v275, .int v277, .int v278, .ref (ad 17), .ref (ad 18), .int v279, .ref (ad 19)]) := c280
        have q281 : fld (S251 0) 12 = v262.toInt := fld_of c280 rfl
        have b282 : Bd v262 (1) (3) := ⟨by omega, (b263).2⟩
        refine lv_aload_n hx hb dX12_shore_153 rfl (lv_at hl 0 rfl) ?_
        refine xget E hQ 0 (by decide) c280 rfl 12 (by decide) q1480 rfl dX12_shore_154 ?_
        refine lv_if_eq (tgt := 163) hx hb dX12_shore_157 (by decide) (fun k283 => ?_) (fun k283 => ?_)
        · have h284 := ib_eq k283
          have b285 : Bd v262 (1) (0) := ⟨(b282).1, ((rf_eq b282 (by decide : Bd 0 (0) (0)) h284).1).2⟩
          exact absurd (Int.le_trans b285.1 b285.2) (by decide)
        · have h286 := ib_ne k283
          have ef287 : EFp (S251 7) (S 7) 0 40 := (ef_tr hE13_7 (o251 7 (by decide)))
          obtain ⟨f288, c289, b290⟩ := invM_7 hI
          obtain ⟨v291, ee292⟩ : ∃ z : Int32, f288 0 = z := ⟨_, rfl⟩
          have b293 : Bd v291 (0) (12) := (by rw [← ee292]; exact b290.1 0 (by decide))
          have q294 : elm (S251 7) 0 = v291.toInt := (elm_of c289 0).trans (congrArg Int32.toInt (ee292))
          have t295 : v291.toInt = v7.toInt := by have h0 := ef287 0 (by decide) (by decide); omega
          obtain ⟨v296, ee297⟩ : ∃ z : Int32, f288 1 = z := ⟨_, rfl⟩
          have b298 : Bd v296 (0) (12) := (by rw [← ee297]; exact b290.2.1 1 (by decide))
          have q299 : elm (S251 7) 1 = v296.toInt := (elm_of c289 1).trans (congrArg Int32.toInt (ee297))
          have t300 : v296.toInt = v4.toInt := by have h0 := ef287 1 (by decide) (by decide); omega
          obtain ⟨v301, ee302⟩ : ∃ z : Int32, f288 3 = z := ⟨_, rfl⟩
          have b303 : Bd v301 (0) (12) := (by rw [← ee302]; exact b290.2.2.2.1 3 (by decide))
          have q304 : elm (S251 7) 3 = v301.toInt := (elm_of c289 3).trans (congrArg Int32.toInt (ee302))
          have t305 : v301.toInt = v10.toInt := by have h0 := ef287 3 (by decide) (by decide); omega
          obtain ⟨v306, ee307⟩ : ∃ z : Int32, f288 6 = z := ⟨_, rfl⟩
          have b308 : Bd v306 (0) (8) := (by rw [← ee307]; exact b290.2.2.2.2.1 6 (by decide))
          have q309 : elm (S251 7) 6 = v306.toInt := (elm_of c289 6).trans (congrArg Int32.toInt (ee307))
          have t310 : v306.toInt = v13.toInt := by have h0 := ef287 6 (by decide) (by decide); omega
          obtain ⟨v311, ee312⟩ : ∃ z : Int32, f288 8 = z := ⟨_, rfl⟩
          have b313 : Bd v311 (0) (3) := (by rw [← ee312]; exact b290.2.2.2.2.2.2.1 8 (by decide))
          have q314 : elm (S251 7) 8 = v311.toInt := (elm_of c289 8).trans (congrArg Int32.toInt (ee312))
          have t315 : v311.toInt = v16.toInt := by have h0 := ef287 8 (by decide) (by decide); omega
          obtain ⟨v316, ee317⟩ : ∃ z : Int32, f288 9 = z := ⟨_, rfl⟩
          have b318 : Bd v316 (0) (40) := (by rw [← ee317]; exact b290.2.2.2.2.2.2.2 9 (by decide))
          have q319 : elm (S251 7) 9 = v316.toInt := (elm_of c289 9).trans (congrArg Int32.toInt (ee317))
          have t320 : v316.toInt = v79.toInt := by have h0 := ef287 9 (by decide) (by decide); omega
          obtain ⟨v321, ee322⟩ : ∃ z : Int32, f288 10 = z := ⟨_, rfl⟩
          have b323 : Bd v321 (0) (12) := (by rw [← ee322]; exact b290.1 10 (by decide))
          have q324 : elm (S251 7) 10 = v321.toInt := (elm_of c289 10).trans (congrArg Int32.toInt (ee322))
          have t325 : v321.toInt = v28.toInt := by have h0 := ef287 10 (by decide) (by decide); omega
          obtain ⟨v326, ee327⟩ : ∃ z : Int32, f288 11 = z := ⟨_, rfl⟩
          have b328 : Bd v326 (0) (12) := (by rw [← ee327]; exact b290.2.1 11 (by decide))
          have q329 : elm (S251 7) 11 = v326.toInt := (elm_of c289 11).trans (congrArg Int32.toInt (ee327))
          have t330 : v326.toInt = v25.toInt := by have h0 := ef287 11 (by decide) (by decide); omega
          obtain ⟨v331, ee332⟩ : ∃ z : Int32, f288 13 = z := ⟨_, rfl⟩
          have b333 : Bd v331 (0) (12) := (by rw [← ee332]; exact b290.2.2.2.1 13 (by decide))
          have q334 : elm (S251 7) 13 = v331.toInt := (elm_of c289 13).trans (congrArg Int32.toInt (ee332))
          have t335 : v331.toInt = v31.toInt := by have h0 := ef287 13 (by decide) (by decide); omega
          obtain ⟨v336, ee337⟩ : ∃ z : Int32, f288 16 = z := ⟨_, rfl⟩
          have b338 : Bd v336 (0) (8) := (by rw [← ee337]; exact b290.2.2.2.2.1 16 (by decide))
          have q339 : elm (S251 7) 16 = v336.toInt := (elm_of c289 16).trans (congrArg Int32.toInt (ee337))
          have t340 : v336.toInt = v34.toInt := by have h0 := ef287 16 (by decide) (by decide); omega
          obtain ⟨v341, ee342⟩ : ∃ z : Int32, f288 18 = z := ⟨_, rfl⟩
          have b343 : Bd v341 (0) (3) := (by rw [← ee342]; exact b290.2.2.2.2.2.2.1 18 (by decide))
          have q344 : elm (S251 7) 18 = v341.toInt := (elm_of c289 18).trans (congrArg Int32.toInt (ee342))
          have t345 : v341.toInt = v37.toInt := by have h0 := ef287 18 (by decide) (by decide); omega
          obtain ⟨v346, ee347⟩ : ∃ z : Int32, f288 19 = z := ⟨_, rfl⟩
          have b348 : Bd v346 (0) (40) := (by rw [← ee347]; exact b290.2.2.2.2.2.2.2 19 (by decide))
          have q349 : elm (S251 7) 19 = v346.toInt := (elm_of c289 19).trans (congrArg Int32.toInt (ee347))
          have t350 : v346.toInt = v82.toInt := by have h0 := ef287 19 (by decide) (by decide); omega
          obtain ⟨v351, ee352⟩ : ∃ z : Int32, f288 20 = z := ⟨_, rfl⟩
          have b353 : Bd v351 (0) (12) := (by rw [← ee352]; exact b290.1 20 (by decide))
          have q354 : elm (S251 7) 20 = v351.toInt := (elm_of c289 20).trans (congrArg Int32.toInt (ee352))
          have t355 : v351.toInt = v46.toInt := by have h0 := ef287 20 (by decide) (by decide); omega
          obtain ⟨v356, ee357⟩ : ∃ z : Int32, f288 21 = z := ⟨_, rfl⟩
          have b358 : Bd v356 (0) (12) := (by rw [← ee357]; exact b290.2.1 21 (by decide))
          have q359 : elm (S251 7) 21 = v356.toInt := (elm_of c289 21).trans (congrArg Int32.toInt (ee357))
          have t360 : v356.toInt = v43.toInt := by have h0 := ef287 21 (by decide) (by decide); omega
          obtain ⟨v361, ee362⟩ : ∃ z : Int32, f288 23 = z := ⟨_, rfl⟩
          have b363 : Bd v361 (0) (12) := (by rw [← ee362]; exact b290.2.2.2.1 23 (by decide))
          have q364 : elm (S251 7) 23 = v361.toInt := (elm_of c289 23).trans (congrArg Int32.toInt (ee362))
          have t365 : v361.toInt = v49.toInt := by have h0 := ef287 23 (by decide) (by decide); omega
          obtain ⟨v366, ee367⟩ : ∃ z : Int32, f288 26 = z := ⟨_, rfl⟩
          have b368 : Bd v366 (0) (8) := (by rw [← ee367]; exact b290.2.2.2.2.1 26 (by decide))
          have q369 : elm (S251 7) 26 = v366.toInt := (elm_of c289 26).trans (congrArg Int32.toInt (ee367))
          have t370 : v366.toInt = v52.toInt := by have h0 := ef287 26 (by decide) (by decide); omega
          obtain ⟨v371, ee372⟩ : ∃ z : Int32, f288 28 = z := ⟨_, rfl⟩
          have b373 : Bd v371 (0) (3) := (by rw [← ee372]; exact b290.2.2.2.2.2.2.1 28 (by decide))
          have q374 : elm (S251 7) 28 = v371.toInt := (elm_of c289 28).trans (congrArg Int32.toInt (ee372))
          have t375 : v371.toInt = v55.toInt := by have h0 := ef287 28 (by decide) (by decide); omega
          obtain ⟨v376, ee377⟩ : ∃ z : Int32, f288 29 = z := ⟨_, rfl⟩
          have b378 : Bd v376 (0) (40) := (by rw [← ee377]; exact b290.2.2.2.2.2.2.2 29 (by decide))
          have q379 : elm (S251 7) 29 = v376.toInt := (elm_of c289 29).trans (congrArg Int32.toInt (ee377))
          have t380 : v376.toInt = v85.toInt := by have h0 := ef287 29 (by decide) (by decide); omega
          obtain ⟨v381, ee382⟩ : ∃ z : Int32, f288 30 = z := ⟨_, rfl⟩
          have b383 : Bd v381 (0) (12) := (by rw [← ee382]; exact b290.1 30 (by decide))
          have q384 : elm (S251 7) 30 = v381.toInt := (elm_of c289 30).trans (congrArg Int32.toInt (ee382))
          have t385 : v381.toInt = v64.toInt := by have h0 := ef287 30 (by decide) (by decide); omega
          obtain ⟨v386, ee387⟩ : ∃ z : Int32, f288 31 = z := ⟨_, rfl⟩
          have b388 : Bd v386 (0) (12) := (by rw [← ee387]; exact b290.2.1 31 (by decide))
          have q389 : elm (S251 7) 31 = v386.toInt := (elm_of c289 31).trans (congrArg Int32.toInt (ee387))
          have t390 : v386.toInt = v61.toInt := by have h0 := ef287 31 (by decide) (by decide); omega
          obtain ⟨v391, ee392⟩ : ∃ z : Int32, f288 33 = z := ⟨_, rfl⟩
          have b393 : Bd v391 (0) (12) := (by rw [← ee392]; exact b290.2.2.2.1 33 (by decide))
          have q394 : elm (S251 7) 33 = v391.toInt := (elm_of c289 33).trans (congrArg Int32.toInt (ee392))
          have t395 : v391.toInt = v67.toInt := by have h0 := ef287 33 (by decide) (by decide); omega
          obtain ⟨v396, ee397⟩ : ∃ z : Int32, f288 36 = z := ⟨_, rfl⟩
          have b398 : Bd v396 (0) (8) := (by rw [← ee397]; exact b290.2.2.2.2.1 36 (by decide))
          have q399 : elm (S251 7) 36 = v396.toInt := (elm_of c289 36).trans (congrArg Int32.toInt (ee397))
          have t400 : v396.toInt = v70.toInt := by have h0 := ef287 36 (by decide) (by decide); omega
          obtain ⟨v401, ee402⟩ : ∃ z : Int32, f288 38 = z := ⟨_, rfl⟩
          have b403 : Bd v401 (0) (3) := (by rw [← ee402]; exact b290.2.2.2.2.2.2.1 38 (by decide))
          have q404 : elm (S251 7) 38 = v401.toInt := (elm_of c289 38).trans (congrArg Int32.toInt (ee402))
          have t405 : v401.toInt = v73.toInt := by have h0 := ef287 38 (by decide) (by decide); omega
          obtain ⟨v406, ee407⟩ : ∃ z : Int32, f288 39 = z := ⟨_, rfl⟩
          have b408 : Bd v406 (0) (40) := (by rw [← ee407]; exact b290.2.2.2.2.2.2.2 39 (by decide))
          have q409 : elm (S251 7) 39 = v406.toInt := (elm_of c289 39).trans (congrArg Int32.toInt (ee407))
          have t410 : v406.toInt = v88.toInt := by have h0 := ef287 39 (by decide) (by decide); omega
          have ef411 : EFp (S251 6) (S 6) 0 4 := (ef_tr hE13_6 (o251 6 (by decide)))
          obtain ⟨f412, c413, b414⟩ := invM_6 hI
          obtain ⟨v415, ee416⟩ : ∃ z : Int32, f412 0 = z := ⟨_, rfl⟩
          have b417 : Bd v415 (0) (40000) := (by rw [← ee416]; exact b414 0)
          have q418 : elm (S251 6) 0 = v415.toInt := (elm_of c413 0).trans (congrArg Int32.toInt (ee416))
          have t419 : v415.toInt = v22.toInt := by have h0 := ef411 0 (by decide) (by decide); omega
          obtain ⟨v420, ee421⟩ : ∃ z : Int32, f412 1 = z := ⟨_, rfl⟩
          have b422 : Bd v420 (0) (40000) := (by rw [← ee421]; exact b414 1)
          have q423 : elm (S251 6) 1 = v420.toInt := (elm_of c413 1).trans (congrArg Int32.toInt (ee421))
          have t424 : v420.toInt = v40.toInt := by have h0 := ef411 1 (by decide) (by decide); omega
          obtain ⟨v425, ee426⟩ : ∃ z : Int32, f412 2 = z := ⟨_, rfl⟩
          have b427 : Bd v425 (0) (40000) := (by rw [← ee426]; exact b414 2)
          have q428 : elm (S251 6) 2 = v425.toInt := (elm_of c413 2).trans (congrArg Int32.toInt (ee426))
          have t429 : v425.toInt = v58.toInt := by have h0 := ef411 2 (by decide) (by decide); omega
          obtain ⟨v430, ee431⟩ : ∃ z : Int32, f412 3 = z := ⟨_, rfl⟩
          have b432 : Bd v430 (0) (40000) := (by rw [← ee431]; exact b414 3)
          have q433 : elm (S251 6) 3 = v430.toInt := (elm_of c413 3).trans (congrArg Int32.toInt (ee431))
          have t434 : v430.toInt = v76.toInt := by have h0 := ef411 3 (by decide) (by decide); omega
          have at435 : ATp (S251 7) (S251 12) 0 := at_ef hAT0 ef287 (by decide) ((o251 12 (by decide)).trans ((hf13 12 (by decide)).trans ((o206 12 (by decide)).trans ((o156 12 (by decide)).trans (up_eq (j := 12) eS154 (by decide))))))
          have at436 : ATp (S251 7) (S251 12) 1 := at_ef hAT1 ef287 (by decide) ((o251 12 (by decide)).trans ((hf13 12 (by decide)).trans ((o206 12 (by decide)).trans ((o156 12 (by decide)).trans (up_eq (j := 12) eS154 (by decide))))))
          have at437 : ATp (S251 7) (S251 12) 2 := at_ef hAT2 ef287 (by decide) ((o251 12 (by decide)).trans ((hf13 12 (by decide)).trans ((o206 12 (by decide)).trans ((o156 12 (by decide)).trans (up_eq (j := 12) eS154 (by decide))))))
          have at438 : ATp (S251 7) (S251 12) 3 := at_ef hAT3 ef287 (by decide) ((o251 12 (by decide)).trans ((hf13 12 (by decide)).trans ((o206 12 (by decide)).trans ((o156 12 (by decide)).trans (up_eq (j := 12) eS154 (by decide))))))
          have ef439 : EFp (S251 9) (S 9) 0 96 := (ef_tr hE13_9 (o251 9 (by decide)))
          have ht440 : HTp (S251 7) (S251 9) 0 := ht_ef hHT0 ef287 ef439 (by decide) (by show elm _ 6 ≤ 8; omega)
          have ht441 : HTp (S251 7) (S251 9) 1 := ht_ef hHT1 ef287 ef439 (by decide) (by show elm _ 16 ≤ 8; omega)
          have ht442 : HTp (S251 7) (S251 9) 2 := ht_ef hHT2 ef287 ef439 (by decide) (by show elm _ 26 ≤ 8; omega)
          have ht443 : HTp (S251 7) (S251 9) 3 := ht_ef hHT3 ef287 ef439 (by decide) (by show elm _ 36 ≤ 8; omega)
          refine lv_bipush (v := (-4)) hx hb dX12_shore_160 (by decide) ?_
          exact xri E hr hlk hQ (⟨hI, (o_trans (o_trans (o_trans (o_trans (up_o o_refl eS154 (by decide)) o156 (by decide)) o206 (by decide)) hf13 (by decide)) o251 (by decide)), (ib_wk (by decide : Bd (-4) (-4) (-4)) (by decide) (by decide)), (by omega), (by omega), (by omega), (by omega), (by omega), (by omega), (by omega), (by omega), (by omega), (by omega), (by omega), (by omega), (by omega), (by omega), (by omega), (by omega), (by omega), (by omega), (by omega), (by omega), at435, at436, at437, at438, ht440, ht441, ht442, ht443⟩) dX12_shore_162
      · have h444 := ib_ne k246
        have b445 : Bd r244 (1) (1) := rf_nlo b244 (by decide : Bd 0 (0) (0)) h444
        have g446 := g244_0.resolve_left (by omega)
        clear g244_0
        have b447 : Bd y13_0_12 (0) (0) := ⟨(By13_0_12).1, by omega⟩
        clear g244_1
        refine lv_aload_n hx hb dX12_shore_20 rfl (lv_at hl 0 rfl) ?_
        refine xget E hQ 0 (by decide) cl13_0 rfl 8 (by decide) q1476 rfl dX12_shore_21 ?_
        refine lv_if_eq (tgt := 149) hx hb dX12_shore_24 (by decide) (fun k448 => ?_) (fun k448 => ?_)
        · have h449 := ib_eq k448
          have b450 : Bd y13_0_8 (0) (0) := ⟨(By13_0_8).1, ((rf_eq By13_0_8 (by decide : Bd 0 (0) (0)) h449).1).2⟩
          refine lv_aload_n hx hb dX12_shore_149 rfl (lv_at hl 0 rfl) ?_
          refine xcVv E hs hQ hml hl.1 0 (gX12_isOver_0 l g ad hD S_13 hI ) mX12_isOver q1735 (by decide) cl13_0 rfl rfl ⟨(Nat.le_of_ble_eq_true rfl), (Nat.le_of_ble_eq_true rfl)⟩ ⟨(Nat.le_of_ble_eq_true rfl), (Nat.le_of_ble_eq_true rfl)⟩ (Nat.le_of_ble_eq_true rfl) rfl dX12_shore_150 (fun S451 H locs hp451 hQ _ => ?_)
          obtain ⟨hI, o451, g451_0⟩ := hp451
          obtain ⟨v452, v453, v455, v457, v459, v460, w461, v462, v464, v465, v466, v467, v469, v471, v473, v475, v477, v478, v479, c480, b454, b456, b458, b463, b468, b470, b472, b474, b476⟩ := invM_0 hI
          have c480 : S451 0 = .inr (12, [.int v452, .ref (ad 1), .ref (ad 2), .ref (ad 3), .ref (ad 4), .ref (ad 5), .int v453, .int v455, .int v457, .int v459, .int v460, .long w461, .int v462, .int v464, .int v465, .int v466, .ref (ad 6), .ref (ad 7), .ref (ad 8), .ref (ad 9), .ref (ad 10), .ref (ad 11), .ref (ad 12), .ref (ad 13), .ref (ad 14), .ref (ad 15), .int v467, .int v469, .ref (ad 16), .int v471, .int v473, .int v475, .int v477, .int v478, .ref (ad 17), .ref (ad 18), .int v479, .ref (ad 19)]) := c480
          have q481 : fld (S451 0) 12 = v462.toInt := fld_of c480 rfl
          have b482 : Bd v462 (0) (0) := ⟨(b463).1, by omega⟩
          refine lv_aload_n hx hb dX12_shore_153 rfl (lv_at hl 0 rfl) ?_
          refine xget E hQ 0 (by decide) c480 rfl 12 (by decide) q1480 rfl dX12_shore_154 ?_
          refine lv_if_eq (tgt := 163) hx hb dX12_shore_157 (by decide) (fun k483 => ?_) (fun k483 => ?_)
          · have h484 := ib_eq k483
            have ef485 : EFp (S451 7) (S 7) 0 40 := (ef_tr hE13_7 (o451 7 (by decide)))
            obtain ⟨f486, c487, b488⟩ := invM_7 hI
            obtain ⟨v489, ee490⟩ : ∃ z : Int32, f486 0 = z := ⟨_, rfl⟩
            have b491 : Bd v489 (0) (12) := (by rw [← ee490]; exact b488.1 0 (by decide))
            have q492 : elm (S451 7) 0 = v489.toInt := (elm_of c487 0).trans (congrArg Int32.toInt (ee490))
            have t493 : v489.toInt = v7.toInt := by have h0 := ef485 0 (by decide) (by decide); omega
            obtain ⟨v494, ee495⟩ : ∃ z : Int32, f486 1 = z := ⟨_, rfl⟩
            have b496 : Bd v494 (0) (12) := (by rw [← ee495]; exact b488.2.1 1 (by decide))
            have q497 : elm (S451 7) 1 = v494.toInt := (elm_of c487 1).trans (congrArg Int32.toInt (ee495))
            have t498 : v494.toInt = v4.toInt := by have h0 := ef485 1 (by decide) (by decide); omega
            obtain ⟨v499, ee500⟩ : ∃ z : Int32, f486 3 = z := ⟨_, rfl⟩
            have b501 : Bd v499 (0) (12) := (by rw [← ee500]; exact b488.2.2.2.1 3 (by decide))
            have q502 : elm (S451 7) 3 = v499.toInt := (elm_of c487 3).trans (congrArg Int32.toInt (ee500))
            have t503 : v499.toInt = v10.toInt := by have h0 := ef485 3 (by decide) (by decide); omega
            obtain ⟨v504, ee505⟩ : ∃ z : Int32, f486 6 = z := ⟨_, rfl⟩
            have b506 : Bd v504 (0) (8) := (by rw [← ee505]; exact b488.2.2.2.2.1 6 (by decide))
            have q507 : elm (S451 7) 6 = v504.toInt := (elm_of c487 6).trans (congrArg Int32.toInt (ee505))
            have t508 : v504.toInt = v13.toInt := by have h0 := ef485 6 (by decide) (by decide); omega
            obtain ⟨v509, ee510⟩ : ∃ z : Int32, f486 8 = z := ⟨_, rfl⟩
            have b511 : Bd v509 (0) (3) := (by rw [← ee510]; exact b488.2.2.2.2.2.2.1 8 (by decide))
            have q512 : elm (S451 7) 8 = v509.toInt := (elm_of c487 8).trans (congrArg Int32.toInt (ee510))
            have t513 : v509.toInt = v16.toInt := by have h0 := ef485 8 (by decide) (by decide); omega
            obtain ⟨v514, ee515⟩ : ∃ z : Int32, f486 9 = z := ⟨_, rfl⟩
            have b516 : Bd v514 (0) (40) := (by rw [← ee515]; exact b488.2.2.2.2.2.2.2 9 (by decide))
            have q517 : elm (S451 7) 9 = v514.toInt := (elm_of c487 9).trans (congrArg Int32.toInt (ee515))
            have t518 : v514.toInt = v79.toInt := by have h0 := ef485 9 (by decide) (by decide); omega
            obtain ⟨v519, ee520⟩ : ∃ z : Int32, f486 10 = z := ⟨_, rfl⟩
            have b521 : Bd v519 (0) (12) := (by rw [← ee520]; exact b488.1 10 (by decide))
            have q522 : elm (S451 7) 10 = v519.toInt := (elm_of c487 10).trans (congrArg Int32.toInt (ee520))
            have t523 : v519.toInt = v28.toInt := by have h0 := ef485 10 (by decide) (by decide); omega
            obtain ⟨v524, ee525⟩ : ∃ z : Int32, f486 11 = z := ⟨_, rfl⟩
            have b526 : Bd v524 (0) (12) := (by rw [← ee525]; exact b488.2.1 11 (by decide))
            have q527 : elm (S451 7) 11 = v524.toInt := (elm_of c487 11).trans (congrArg Int32.toInt (ee525))
            have t528 : v524.toInt = v25.toInt := by have h0 := ef485 11 (by decide) (by decide); omega
            obtain ⟨v529, ee530⟩ : ∃ z : Int32, f486 13 = z := ⟨_, rfl⟩
            have b531 : Bd v529 (0) (12) := (by rw [← ee530]; exact b488.2.2.2.1 13 (by decide))
            have q532 : elm (S451 7) 13 = v529.toInt := (elm_of c487 13).trans (congrArg Int32.toInt (ee530))
            have t533 : v529.toInt = v31.toInt := by have h0 := ef485 13 (by decide) (by decide); omega
            obtain ⟨v534, ee535⟩ : ∃ z : Int32, f486 16 = z := ⟨_, rfl⟩
            have b536 : Bd v534 (0) (8) := (by rw [← ee535]; exact b488.2.2.2.2.1 16 (by decide))
            have q537 : elm (S451 7) 16 = v534.toInt := (elm_of c487 16).trans (congrArg Int32.toInt (ee535))
            have t538 : v534.toInt = v34.toInt := by have h0 := ef485 16 (by decide) (by decide); omega
            obtain ⟨v539, ee540⟩ : ∃ z : Int32, f486 18 = z := ⟨_, rfl⟩
            have b541 : Bd v539 (0) (3) := (by rw [← ee540]; exact b488.2.2.2.2.2.2.1 18 (by decide))
            have q542 : elm (S451 7) 18 = v539.toInt := (elm_of c487 18).trans (congrArg Int32.toInt (ee540))
            have t543 : v539.toInt = v37.toInt := by have h0 := ef485 18 (by decide) (by decide); omega
            obtain ⟨v544, ee545⟩ : ∃ z : Int32, f486 19 = z := ⟨_, rfl⟩
            have b546 : Bd v544 (0) (40) := (by rw [← ee545]; exact b488.2.2.2.2.2.2.2 19 (by decide))
            have q547 : elm (S451 7) 19 = v544.toInt := (elm_of c487 19).trans (congrArg Int32.toInt (ee545))
            have t548 : v544.toInt = v82.toInt := by have h0 := ef485 19 (by decide) (by decide); omega
            obtain ⟨v549, ee550⟩ : ∃ z : Int32, f486 20 = z := ⟨_, rfl⟩
            have b551 : Bd v549 (0) (12) := (by rw [← ee550]; exact b488.1 20 (by decide))
            have q552 : elm (S451 7) 20 = v549.toInt := (elm_of c487 20).trans (congrArg Int32.toInt (ee550))
            have t553 : v549.toInt = v46.toInt := by have h0 := ef485 20 (by decide) (by decide); omega
            obtain ⟨v554, ee555⟩ : ∃ z : Int32, f486 21 = z := ⟨_, rfl⟩
            have b556 : Bd v554 (0) (12) := (by rw [← ee555]; exact b488.2.1 21 (by decide))
            have q557 : elm (S451 7) 21 = v554.toInt := (elm_of c487 21).trans (congrArg Int32.toInt (ee555))
            have t558 : v554.toInt = v43.toInt := by have h0 := ef485 21 (by decide) (by decide); omega
            obtain ⟨v559, ee560⟩ : ∃ z : Int32, f486 23 = z := ⟨_, rfl⟩
            have b561 : Bd v559 (0) (12) := (by rw [← ee560]; exact b488.2.2.2.1 23 (by decide))
            have q562 : elm (S451 7) 23 = v559.toInt := (elm_of c487 23).trans (congrArg Int32.toInt (ee560))
            have t563 : v559.toInt = v49.toInt := by have h0 := ef485 23 (by decide) (by decide); omega
            obtain ⟨v564, ee565⟩ : ∃ z : Int32, f486 26 = z := ⟨_, rfl⟩
            have b566 : Bd v564 (0) (8) := (by rw [← ee565]; exact b488.2.2.2.2.1 26 (by decide))
            have q567 : elm (S451 7) 26 = v564.toInt := (elm_of c487 26).trans (congrArg Int32.toInt (ee565))
            have t568 : v564.toInt = v52.toInt := by have h0 := ef485 26 (by decide) (by decide); omega
            obtain ⟨v569, ee570⟩ : ∃ z : Int32, f486 28 = z := ⟨_, rfl⟩
            have b571 : Bd v569 (0) (3) := (by rw [← ee570]; exact b488.2.2.2.2.2.2.1 28 (by decide))
            have q572 : elm (S451 7) 28 = v569.toInt := (elm_of c487 28).trans (congrArg Int32.toInt (ee570))
            have t573 : v569.toInt = v55.toInt := by have h0 := ef485 28 (by decide) (by decide); omega
            obtain ⟨v574, ee575⟩ : ∃ z : Int32, f486 29 = z := ⟨_, rfl⟩
            have b576 : Bd v574 (0) (40) := (by rw [← ee575]; exact b488.2.2.2.2.2.2.2 29 (by decide))
            have q577 : elm (S451 7) 29 = v574.toInt := (elm_of c487 29).trans (congrArg Int32.toInt (ee575))
            have t578 : v574.toInt = v85.toInt := by have h0 := ef485 29 (by decide) (by decide); omega
            obtain ⟨v579, ee580⟩ : ∃ z : Int32, f486 30 = z := ⟨_, rfl⟩
            have b581 : Bd v579 (0) (12) := (by rw [← ee580]; exact b488.1 30 (by decide))
            have q582 : elm (S451 7) 30 = v579.toInt := (elm_of c487 30).trans (congrArg Int32.toInt (ee580))
            have t583 : v579.toInt = v64.toInt := by have h0 := ef485 30 (by decide) (by decide); omega
            obtain ⟨v584, ee585⟩ : ∃ z : Int32, f486 31 = z := ⟨_, rfl⟩
            have b586 : Bd v584 (0) (12) := (by rw [← ee585]; exact b488.2.1 31 (by decide))
            have q587 : elm (S451 7) 31 = v584.toInt := (elm_of c487 31).trans (congrArg Int32.toInt (ee585))
            have t588 : v584.toInt = v61.toInt := by have h0 := ef485 31 (by decide) (by decide); omega
            obtain ⟨v589, ee590⟩ : ∃ z : Int32, f486 33 = z := ⟨_, rfl⟩
            have b591 : Bd v589 (0) (12) := (by rw [← ee590]; exact b488.2.2.2.1 33 (by decide))
            have q592 : elm (S451 7) 33 = v589.toInt := (elm_of c487 33).trans (congrArg Int32.toInt (ee590))
            have t593 : v589.toInt = v67.toInt := by have h0 := ef485 33 (by decide) (by decide); omega
            obtain ⟨v594, ee595⟩ : ∃ z : Int32, f486 36 = z := ⟨_, rfl⟩
            have b596 : Bd v594 (0) (8) := (by rw [← ee595]; exact b488.2.2.2.2.1 36 (by decide))
            have q597 : elm (S451 7) 36 = v594.toInt := (elm_of c487 36).trans (congrArg Int32.toInt (ee595))
            have t598 : v594.toInt = v70.toInt := by have h0 := ef485 36 (by decide) (by decide); omega
            obtain ⟨v599, ee600⟩ : ∃ z : Int32, f486 38 = z := ⟨_, rfl⟩
            have b601 : Bd v599 (0) (3) := (by rw [← ee600]; exact b488.2.2.2.2.2.2.1 38 (by decide))
            have q602 : elm (S451 7) 38 = v599.toInt := (elm_of c487 38).trans (congrArg Int32.toInt (ee600))
            have t603 : v599.toInt = v73.toInt := by have h0 := ef485 38 (by decide) (by decide); omega
            obtain ⟨v604, ee605⟩ : ∃ z : Int32, f486 39 = z := ⟨_, rfl⟩
            have b606 : Bd v604 (0) (40) := (by rw [← ee605]; exact b488.2.2.2.2.2.2.2 39 (by decide))
            have q607 : elm (S451 7) 39 = v604.toInt := (elm_of c487 39).trans (congrArg Int32.toInt (ee605))
            have t608 : v604.toInt = v88.toInt := by have h0 := ef485 39 (by decide) (by decide); omega
            have ef609 : EFp (S451 6) (S 6) 0 4 := (ef_tr hE13_6 (o451 6 (by decide)))
            obtain ⟨f610, c611, b612⟩ := invM_6 hI
            obtain ⟨v613, ee614⟩ : ∃ z : Int32, f610 0 = z := ⟨_, rfl⟩
            have b615 : Bd v613 (0) (40000) := (by rw [← ee614]; exact b612 0)
            have q616 : elm (S451 6) 0 = v613.toInt := (elm_of c611 0).trans (congrArg Int32.toInt (ee614))
            have t617 : v613.toInt = v22.toInt := by have h0 := ef609 0 (by decide) (by decide); omega
            obtain ⟨v618, ee619⟩ : ∃ z : Int32, f610 1 = z := ⟨_, rfl⟩
            have b620 : Bd v618 (0) (40000) := (by rw [← ee619]; exact b612 1)
            have q621 : elm (S451 6) 1 = v618.toInt := (elm_of c611 1).trans (congrArg Int32.toInt (ee619))
            have t622 : v618.toInt = v40.toInt := by have h0 := ef609 1 (by decide) (by decide); omega
            obtain ⟨v623, ee624⟩ : ∃ z : Int32, f610 2 = z := ⟨_, rfl⟩
            have b625 : Bd v623 (0) (40000) := (by rw [← ee624]; exact b612 2)
            have q626 : elm (S451 6) 2 = v623.toInt := (elm_of c611 2).trans (congrArg Int32.toInt (ee624))
            have t627 : v623.toInt = v58.toInt := by have h0 := ef609 2 (by decide) (by decide); omega
            obtain ⟨v628, ee629⟩ : ∃ z : Int32, f610 3 = z := ⟨_, rfl⟩
            have b630 : Bd v628 (0) (40000) := (by rw [← ee629]; exact b612 3)
            have q631 : elm (S451 6) 3 = v628.toInt := (elm_of c611 3).trans (congrArg Int32.toInt (ee629))
            have t632 : v628.toInt = v76.toInt := by have h0 := ef609 3 (by decide) (by decide); omega
            have at633 : ATp (S451 7) (S451 12) 0 := at_ef hAT0 ef485 (by decide) ((o451 12 (by decide)).trans ((hf13 12 (by decide)).trans ((o206 12 (by decide)).trans ((o156 12 (by decide)).trans (up_eq (j := 12) eS154 (by decide))))))
            have at634 : ATp (S451 7) (S451 12) 1 := at_ef hAT1 ef485 (by decide) ((o451 12 (by decide)).trans ((hf13 12 (by decide)).trans ((o206 12 (by decide)).trans ((o156 12 (by decide)).trans (up_eq (j := 12) eS154 (by decide))))))
            have at635 : ATp (S451 7) (S451 12) 2 := at_ef hAT2 ef485 (by decide) ((o451 12 (by decide)).trans ((hf13 12 (by decide)).trans ((o206 12 (by decide)).trans ((o156 12 (by decide)).trans (up_eq (j := 12) eS154 (by decide))))))
            have at636 : ATp (S451 7) (S451 12) 3 := at_ef hAT3 ef485 (by decide) ((o451 12 (by decide)).trans ((hf13 12 (by decide)).trans ((o206 12 (by decide)).trans ((o156 12 (by decide)).trans (up_eq (j := 12) eS154 (by decide))))))
            have ef637 : EFp (S451 9) (S 9) 0 96 := (ef_tr hE13_9 (o451 9 (by decide)))
            have ht638 : HTp (S451 7) (S451 9) 0 := ht_ef hHT0 ef485 ef637 (by decide) (by show elm _ 6 ≤ 8; omega)
            have ht639 : HTp (S451 7) (S451 9) 1 := ht_ef hHT1 ef485 ef637 (by decide) (by show elm _ 16 ≤ 8; omega)
            have ht640 : HTp (S451 7) (S451 9) 2 := ht_ef hHT2 ef485 ef637 (by decide) (by show elm _ 26 ≤ 8; omega)
            have ht641 : HTp (S451 7) (S451 9) 3 := ht_ef hHT3 ef485 ef637 (by decide) (by show elm _ 36 ≤ 8; omega)
            refine lv_aload_n hx hb dX12_shore_163 rfl (lv_at hl 0 rfl) ?_
            refine lv_iconst (v := 4) hx hb dX12_shore_164 (by decide) ?_
            refine lv_iconst (v := 0) hx hb dX12_shore_165 (by decide) ?_
            have q642 : (4 : Int32).toInt = 4 := by decide
            have q643 : (0 : Int32).toInt = 0 := by decide
            have ee644 : f486 49 = ye13_7_49 := Int32.toInt_inj.mp ((elm_of c487 49).symm.trans ((congrArg (fun e => elm e 49) (o451 7 (by decide))).trans hy13_7_49))
            have q645 : elm (S451 7) 49 = ye13_7_49.toInt := (elm_of c487 49).trans (congrArg Int32.toInt (ee644))
            have ee646 : f486 40 = ye13_7_40 := Int32.toInt_inj.mp ((elm_of c487 40).symm.trans ((congrArg (fun e => elm e 40) (o451 7 (by decide))).trans hy13_7_40))
            have ee647 : f486 41 = ye13_7_41 := Int32.toInt_inj.mp ((elm_of c487 41).symm.trans ((congrArg (fun e => elm e 41) (o451 7 (by decide))).trans hy13_7_41))
            have ee648 : f486 43 = ye13_7_43 := Int32.toInt_inj.mp ((elm_of c487 43).symm.trans ((congrArg (fun e => elm e 43) (o451 7 (by decide))).trans hy13_7_43))
            have ee649 : f486 46 = ye13_7_46 := Int32.toInt_inj.mp ((elm_of c487 46).symm.trans ((congrArg (fun e => elm e 46) (o451 7 (by decide))).trans hy13_7_46))
            have ee650 : f486 48 = ye13_7_48 := Int32.toInt_inj.mp ((elm_of c487 48).symm.trans ((congrArg (fun e => elm e 48) (o451 7 (by decide))).trans hy13_7_48))
            have ee651 : f610 4 = ye13_6_4 := Int32.toInt_inj.mp ((elm_of c611 4).symm.trans ((congrArg (fun e => elm e 4) (o451 6 (by decide))).trans hy13_6_4))
            refine xcVv E hs hQ hml hl.1 0 (gX12_copyShore_4_0 l g ad hD S451 hI at633 at634 at635 at636 (at_z (show elm (S451 7) 49 ≤ 0 by omega)) ht638 ht639 ht640 ht641 (ht_tr hC13 (o451 7 (by decide)) (o451 9 (by decide)))) mX12_copyShore q1739 (by decide) c480 rfl rfl ⟨(Nat.le_of_ble_eq_true rfl), (Nat.le_of_ble_eq_true rfl)⟩ ⟨(Nat.le_of_ble_eq_true rfl), (Nat.le_of_ble_eq_true rfl)⟩ (Nat.le_of_ble_eq_true rfl) rfl dX12_shore_166 (fun S652 H locs hp652 hQ _ => ?_)
            obtain ⟨hI, o652, g652_0, g652_1, g652_2, g652_3, g652_4, g652_5, g652_6, g652_7, g652_8, g652_9, g652_10, g652_11, g652_12, g652_13, g652_14, g652_15, g652_16, g652_17, g652_18, g652_19, g652_20, g652_21, g652_22, g652_23, g652_24, g652_25, g652_26, g652_27, u652_0, u652_1, u652_2, u652_3, u652_4, u652_5, u652_6, u652_7⟩ := hp652
            have q653 : elm (S451 7) 40 = ye13_7_40.toInt := (elm_of c487 40).trans (congrArg Int32.toInt (ee646))
            obtain ⟨f654, c655, b656⟩ := invM_7 hI
            obtain ⟨v657, ee658⟩ : ∃ z : Int32, f654 0 = z := ⟨_, rfl⟩
            have b659 : Bd v657 (0) (12) := (by rw [← ee658]; exact b656.1 0 (by decide))
            have q660 : elm (S652 7) 0 = v657.toInt := (elm_of c655 0).trans (congrArg Int32.toInt (ee658))
            have q661 : elm (S451 7) 41 = ye13_7_41.toInt := (elm_of c487 41).trans (congrArg Int32.toInt (ee647))
            obtain ⟨v662, ee663⟩ : ∃ z : Int32, f654 1 = z := ⟨_, rfl⟩
            have b664 : Bd v662 (0) (12) := (by rw [← ee663]; exact b656.2.1 1 (by decide))
            have q665 : elm (S652 7) 1 = v662.toInt := (elm_of c655 1).trans (congrArg Int32.toInt (ee663))
            have q666 : elm (S451 7) 43 = ye13_7_43.toInt := (elm_of c487 43).trans (congrArg Int32.toInt (ee648))
            obtain ⟨v667, ee668⟩ : ∃ z : Int32, f654 3 = z := ⟨_, rfl⟩
            have b669 : Bd v667 (0) (12) := (by rw [← ee668]; exact b656.2.2.2.1 3 (by decide))
            have q670 : elm (S652 7) 3 = v667.toInt := (elm_of c655 3).trans (congrArg Int32.toInt (ee668))
            have q671 : elm (S451 7) 46 = ye13_7_46.toInt := (elm_of c487 46).trans (congrArg Int32.toInt (ee649))
            obtain ⟨v672, ee673⟩ : ∃ z : Int32, f654 6 = z := ⟨_, rfl⟩
            have b674 : Bd v672 (0) (8) := (by rw [← ee673]; exact b656.2.2.2.2.1 6 (by decide))
            have q675 : elm (S652 7) 6 = v672.toInt := (elm_of c655 6).trans (congrArg Int32.toInt (ee673))
            have q676 : elm (S451 7) 48 = ye13_7_48.toInt := (elm_of c487 48).trans (congrArg Int32.toInt (ee650))
            obtain ⟨v677, ee678⟩ : ∃ z : Int32, f654 8 = z := ⟨_, rfl⟩
            have b679 : Bd v677 (0) (3) := (by rw [← ee678]; exact b656.2.2.2.2.2.2.1 8 (by decide))
            have q680 : elm (S652 7) 8 = v677.toInt := (elm_of c655 8).trans (congrArg Int32.toInt (ee678))
            obtain ⟨v681, ee682⟩ : ∃ z : Int32, f654 9 = z := ⟨_, rfl⟩
            have b683 : Bd v681 (0) (40) := (by rw [← ee682]; exact b656.2.2.2.2.2.2.2 9 (by decide))
            have q684 : elm (S652 7) 9 = v681.toInt := (elm_of c655 9).trans (congrArg Int32.toInt (ee682))
            have b685 : Bd v681 (0) (0) := ⟨(b683).1, by omega⟩
            obtain ⟨v686, ee687⟩ : ∃ z : Int32, f654 10 = z := ⟨_, rfl⟩
            have b688 : Bd v686 (0) (12) := (by rw [← ee687]; exact b656.1 10 (by decide))
            have q689 : elm (S652 7) 10 = v686.toInt := (elm_of c655 10).trans (congrArg Int32.toInt (ee687))
            obtain ⟨v690, ee691⟩ : ∃ z : Int32, f654 11 = z := ⟨_, rfl⟩
            have b692 : Bd v690 (0) (12) := (by rw [← ee691]; exact b656.2.1 11 (by decide))
            have q693 : elm (S652 7) 11 = v690.toInt := (elm_of c655 11).trans (congrArg Int32.toInt (ee691))
            obtain ⟨v694, ee695⟩ : ∃ z : Int32, f654 13 = z := ⟨_, rfl⟩
            have b696 : Bd v694 (0) (12) := (by rw [← ee695]; exact b656.2.2.2.1 13 (by decide))
            have q697 : elm (S652 7) 13 = v694.toInt := (elm_of c655 13).trans (congrArg Int32.toInt (ee695))
            obtain ⟨v698, ee699⟩ : ∃ z : Int32, f654 16 = z := ⟨_, rfl⟩
            have b700 : Bd v698 (0) (8) := (by rw [← ee699]; exact b656.2.2.2.2.1 16 (by decide))
            have q701 : elm (S652 7) 16 = v698.toInt := (elm_of c655 16).trans (congrArg Int32.toInt (ee699))
            obtain ⟨v702, ee703⟩ : ∃ z : Int32, f654 18 = z := ⟨_, rfl⟩
            have b704 : Bd v702 (0) (3) := (by rw [← ee703]; exact b656.2.2.2.2.2.2.1 18 (by decide))
            have q705 : elm (S652 7) 18 = v702.toInt := (elm_of c655 18).trans (congrArg Int32.toInt (ee703))
            obtain ⟨v706, ee707⟩ : ∃ z : Int32, f654 19 = z := ⟨_, rfl⟩
            have b708 : Bd v706 (0) (40) := (by rw [← ee707]; exact b656.2.2.2.2.2.2.2 19 (by decide))
            have q709 : elm (S652 7) 19 = v706.toInt := (elm_of c655 19).trans (congrArg Int32.toInt (ee707))
            obtain ⟨v710, ee711⟩ : ∃ z : Int32, f654 20 = z := ⟨_, rfl⟩
            have b712 : Bd v710 (0) (12) := (by rw [← ee711]; exact b656.1 20 (by decide))
            have q713 : elm (S652 7) 20 = v710.toInt := (elm_of c655 20).trans (congrArg Int32.toInt (ee711))
            obtain ⟨v714, ee715⟩ : ∃ z : Int32, f654 21 = z := ⟨_, rfl⟩
            have b716 : Bd v714 (0) (12) := (by rw [← ee715]; exact b656.2.1 21 (by decide))
            have q717 : elm (S652 7) 21 = v714.toInt := (elm_of c655 21).trans (congrArg Int32.toInt (ee715))
            obtain ⟨v718, ee719⟩ : ∃ z : Int32, f654 23 = z := ⟨_, rfl⟩
            have b720 : Bd v718 (0) (12) := (by rw [← ee719]; exact b656.2.2.2.1 23 (by decide))
            have q721 : elm (S652 7) 23 = v718.toInt := (elm_of c655 23).trans (congrArg Int32.toInt (ee719))
            obtain ⟨v722, ee723⟩ : ∃ z : Int32, f654 26 = z := ⟨_, rfl⟩
            have b724 : Bd v722 (0) (8) := (by rw [← ee723]; exact b656.2.2.2.2.1 26 (by decide))
            have q725 : elm (S652 7) 26 = v722.toInt := (elm_of c655 26).trans (congrArg Int32.toInt (ee723))
            obtain ⟨v726, ee727⟩ : ∃ z : Int32, f654 28 = z := ⟨_, rfl⟩
            have b728 : Bd v726 (0) (3) := (by rw [← ee727]; exact b656.2.2.2.2.2.2.1 28 (by decide))
            have q729 : elm (S652 7) 28 = v726.toInt := (elm_of c655 28).trans (congrArg Int32.toInt (ee727))
            obtain ⟨v730, ee731⟩ : ∃ z : Int32, f654 29 = z := ⟨_, rfl⟩
            have b732 : Bd v730 (0) (40) := (by rw [← ee731]; exact b656.2.2.2.2.2.2.2 29 (by decide))
            have q733 : elm (S652 7) 29 = v730.toInt := (elm_of c655 29).trans (congrArg Int32.toInt (ee731))
            obtain ⟨v734, ee735⟩ : ∃ z : Int32, f654 30 = z := ⟨_, rfl⟩
            have b736 : Bd v734 (0) (12) := (by rw [← ee735]; exact b656.1 30 (by decide))
            have q737 : elm (S652 7) 30 = v734.toInt := (elm_of c655 30).trans (congrArg Int32.toInt (ee735))
            obtain ⟨v738, ee739⟩ : ∃ z : Int32, f654 31 = z := ⟨_, rfl⟩
            have b740 : Bd v738 (0) (12) := (by rw [← ee739]; exact b656.2.1 31 (by decide))
            have q741 : elm (S652 7) 31 = v738.toInt := (elm_of c655 31).trans (congrArg Int32.toInt (ee739))
            obtain ⟨v742, ee743⟩ : ∃ z : Int32, f654 33 = z := ⟨_, rfl⟩
            have b744 : Bd v742 (0) (12) := (by rw [← ee743]; exact b656.2.2.2.1 33 (by decide))
            have q745 : elm (S652 7) 33 = v742.toInt := (elm_of c655 33).trans (congrArg Int32.toInt (ee743))
            obtain ⟨v746, ee747⟩ : ∃ z : Int32, f654 36 = z := ⟨_, rfl⟩
            have b748 : Bd v746 (0) (8) := (by rw [← ee747]; exact b656.2.2.2.2.1 36 (by decide))
            have q749 : elm (S652 7) 36 = v746.toInt := (elm_of c655 36).trans (congrArg Int32.toInt (ee747))
            obtain ⟨v750, ee751⟩ : ∃ z : Int32, f654 38 = z := ⟨_, rfl⟩
            have b752 : Bd v750 (0) (3) := (by rw [← ee751]; exact b656.2.2.2.2.2.2.1 38 (by decide))
            have q753 : elm (S652 7) 38 = v750.toInt := (elm_of c655 38).trans (congrArg Int32.toInt (ee751))
            obtain ⟨v754, ee755⟩ : ∃ z : Int32, f654 39 = z := ⟨_, rfl⟩
            have b756 : Bd v754 (0) (40) := (by rw [← ee755]; exact b656.2.2.2.2.2.2.2 39 (by decide))
            have q757 : elm (S652 7) 39 = v754.toInt := (elm_of c655 39).trans (congrArg Int32.toInt (ee755))
            have q758 : elm (S451 6) 4 = ye13_6_4.toInt := (elm_of c611 4).trans (congrArg Int32.toInt (ee651))
            obtain ⟨f759, c760, b761⟩ := invM_6 hI
            obtain ⟨v762, ee763⟩ : ∃ z : Int32, f759 0 = z := ⟨_, rfl⟩
            have b764 : Bd v762 (0) (40000) := (by rw [← ee763]; exact b761 0)
            have q765 : elm (S652 6) 0 = v762.toInt := (elm_of c760 0).trans (congrArg Int32.toInt (ee763))
            have b766 : Bd v762 (0) (4804) := ⟨(b764).1, by omega⟩
            have b767 : Bd ye13_6_4 (0) (4804) := ⟨(b243).1, by omega⟩
            obtain ⟨v768, ee769⟩ : ∃ z : Int32, f759 1 = z := ⟨_, rfl⟩
            have b770 : Bd v768 (0) (40000) := (by rw [← ee769]; exact b761 1)
            have q771 : elm (S652 6) 1 = v768.toInt := (elm_of c760 1).trans (congrArg Int32.toInt (ee769))
            obtain ⟨v772, ee773⟩ : ∃ z : Int32, f759 2 = z := ⟨_, rfl⟩
            have b774 : Bd v772 (0) (40000) := (by rw [← ee773]; exact b761 2)
            have q775 : elm (S652 6) 2 = v772.toInt := (elm_of c760 2).trans (congrArg Int32.toInt (ee773))
            obtain ⟨v776, ee777⟩ : ∃ z : Int32, f759 3 = z := ⟨_, rfl⟩
            have b778 : Bd v776 (0) (40000) := (by rw [← ee777]; exact b761 3)
            have q779 : elm (S652 6) 3 = v776.toInt := (elm_of c760 3).trans (congrArg Int32.toInt (ee777))
            refine lv_aload_n hx hb dX12_shore_169 rfl (lv_at hl 0 rfl) ?_
            have c780 : S652 0 = .inr (12, [.int v452, .ref (ad 1), .ref (ad 2), .ref (ad 3), .ref (ad 4), .ref (ad 5), .int v453, .int v455, .int v457, .int v459, .int v460, .long w461, .int v462, .int v464, .int v465, .int v466, .ref (ad 6), .ref (ad 7), .ref (ad 8), .ref (ad 9), .ref (ad 10), .ref (ad 11), .ref (ad 12), .ref (ad 13), .ref (ad 14), .ref (ad 15), .int v467, .int v469, .ref (ad 16), .int v471, .int v473, .int v475, .int v477, .int v478, .ref (ad 17), .ref (ad 18), .int v479, .ref (ad 19)]) := ((o652 0 (by decide)).trans c480)
            refine xget E hQ 0 (by decide) c780 rfl 16 (by decide) q1484 rfl dX12_shore_170 ?_
            refine lv_iconst (v := 0) hx hb dX12_shore_173 (by decide) ?_
            refine xiald E hQ 6 (by decide) c760 (vp_in_lit 0 5 (by decide)) dX12_shore_174 ?_
            refine sb_at (P := fun z => W _ _ _ _ _ _ _ _ _ _ _ _ _ _ _ (F0 _ _ _ (.int z :: _))) (show f759 (0 : Int32).toNatClampNeg = v762 from ee763) ?_
            exact xri E hr hlk hQ (⟨hI, (o_trans (o_trans (o_trans (o_trans (o_trans (up_o o_refl eS154 (by decide)) o156 (by decide)) o206 (by decide)) hf13 (by decide)) o451 (by decide)) o652 (by decide)), (ib_wk b766 (by decide) (by decide)), (by omega), (by omega), (by omega), (by omega), (by omega), (by omega), (by omega), (by omega), (by omega), (by omega), (by omega), (by omega), (by omega), (by omega), (by omega), (by omega), (by omega), (by omega), (by omega), (by omega), u652_0, u652_1, u652_2, u652_3, u652_4, u652_5, u652_6, u652_7⟩) dX12_shore_175
          · have h781 := ib_ne k483
            exact absurd (Int.le_antisymm (Int.le_trans (b482).2 ((by decide : Bd 0 (0) (0))).1) (Int.le_trans ((by decide : Bd 0 (0) (0))).2 (b482).1)) h781
        · have h782 := ib_ne k448
          have b783 : Bd y13_0_8 (1) (4) := rf_nlo By13_0_8 (by decide : Bd 0 (0) (0)) h782
          refine lv_aload_n hx hb dX12_shore_27 rfl (lv_at hl 0 rfl) ?_
          refine xget E hQ 0 (by decide) cl13_0 rfl 16 (by decide) q1484 rfl dX12_shore_28 ?_
          refine lv_iconst (v := 4) hx hb dX12_shore_31 (by decide) ?_
          obtain ⟨f784, c785, b786⟩ := invM_6 hI
          refine xiald E hQ 6 (by decide) c785 (vp_in_lit 4 5 (by decide)) dX12_shore_32 ?_
          have ee787 : f784 4 = ye13_6_4 := Int32.toInt_inj.mp ((elm_of c785 4).symm.trans hy13_6_4)
          refine sb_at (P := fun z => W _ _ _ _ _ _ _ _ _ _ _ _ _ _ _ (F0 _ _ _ (.int z :: _))) (show f784 (4 : Int32).toNatClampNeg = ye13_6_4 from ee787) ?_
          refine lv_if_ne (tgt := 121) hx hb dX12_shore_33 (by decide) (fun k788 => ?_) (fun k788 => ?_)
          · have h789 := ib_ne k788
            have b790 : Bd ye13_6_4 (1) (34804) := rf_nlo b243 (by decide : Bd 0 (0) (0)) h789
            refine lv_aload_n hx hb dX12_shore_121 rfl (lv_at hl 0 rfl) ?_
            have q791 : fld (S_13 0) 6 = y13_0_6.toInt := fld_of cl13_0 rfl
            have q792 : fld (S_13 0) 7 = y13_0_7.toInt := fld_of cl13_0 rfl
            obtain ⟨f793, c794, b795⟩ := invM_7 hI
            have ee796 : f793 40 = ye13_7_40 := Int32.toInt_inj.mp ((elm_of c794 40).symm.trans hy13_7_40)
            have q797 : elm (S_13 7) 40 = ye13_7_40.toInt := (elm_of c794 40).trans (congrArg Int32.toInt (ee796))
            have ee798 : f793 46 = ye13_7_46 := Int32.toInt_inj.mp ((elm_of c794 46).symm.trans hy13_7_46)
            have q799 : elm (S_13 7) 46 = ye13_7_46.toInt := (elm_of c794 46).trans (congrArg Int32.toInt (ee798))
            have ee800 : f793 41 = ye13_7_41 := Int32.toInt_inj.mp ((elm_of c794 41).symm.trans hy13_7_41)
            have ee801 : f793 43 = ye13_7_43 := Int32.toInt_inj.mp ((elm_of c794 43).symm.trans hy13_7_43)
            have ee802 : f793 49 = ye13_7_49 := Int32.toInt_inj.mp ((elm_of c794 49).symm.trans hy13_7_49)
            refine xcVv E hs hQ hml hl.1 0 (gX12_line_0 l g ad hD S_13 hI (by omega) (by omega) (by omega) hC13) mX12_line q1684 (by decide) cl13_0 rfl rfl ⟨(Nat.le_of_ble_eq_true rfl), (Nat.le_of_ble_eq_true rfl)⟩ ⟨(Nat.le_of_ble_eq_true rfl), (Nat.le_of_ble_eq_true rfl)⟩ (Nat.le_of_ble_eq_true rfl) rfl dX12_shore_122 (fun S803 H locs hp803 hQ _ => ?_)
            obtain ⟨hI, o803, g803_0, g803_1, g803_2, g803_3, g803_4, g803_5, g803_6, u803_0, ef803_7, ef803_9⟩ := hp803
            have ef804 : EFp (S803 7) (S 7) 0 40 := ef_tt ef803_7 hE13_7
            have ef805 : EFp (S803 9) (S 9) 0 96 := ef_tt ef803_9 hE13_9
            obtain ⟨v806, v807, v809, v811, v813, v814, w815, v816, v818, v819, v820, v821, v823, v825, v827, v829, v831, v832, v833, c834, b808, b810, b812, b817, b822, b824, b826, b828, b830⟩ := invM_0 hI
            have c834 : S803 0 = .inr (12, [.int v806, .ref (ad 1), .ref (ad 2), .ref (ad 3), .ref (ad 4), .ref (ad 5), .int v807, .int v809, .int v811, .int v813, .int v814, .long w815, .int v816, .int v818, .int v819, .int v820, .ref (ad 6), .ref (ad 7), .ref (ad 8), .ref (ad 9), .ref (ad 10), .ref (ad 11), .ref (ad 12), .ref (ad 13), .ref (ad 14), .ref (ad 15), .int v821, .int v823, .ref (ad 16), .int v825, .int v827, .int v829, .int v831, .int v832, .ref (ad 17), .ref (ad 18), .int v833, .ref (ad 19)]) := c834
            have q835 : fld (S803 0) 6 = v807.toInt := fld_of c834 rfl
            have q836 : fld (S803 0) 7 = v809.toInt := fld_of c834 rfl
            have q837 : fld (S_13 0) 8 = y13_0_8.toInt := fld_of cl13_0 rfl
            have q838 : fld (S803 0) 8 = v811.toInt := fld_of c834 rfl
            obtain ⟨f839, c840, b841⟩ := invM_7 hI
            obtain ⟨v842, ee843⟩ : ∃ z : Int32, f839 40 = z := ⟨_, rfl⟩
            have b844 : Bd v842 (0) (12) := (by rw [← ee843]; exact b841.1 40 (by decide))
            have q845 : elm (S803 7) 40 = v842.toInt := (elm_of c840 40).trans (congrArg Int32.toInt (ee843))
            have b846 : Bd v842 (1) (12) := ⟨by omega, (b844).2⟩
            have b847 : Bd ye13_7_40 (1) (12) := ⟨by omega, (Bye13_7_40).2⟩
            have q848 : elm (S_13 7) 41 = ye13_7_41.toInt := (elm_of c794 41).trans (congrArg Int32.toInt (ee800))
            obtain ⟨v849, ee850⟩ : ∃ z : Int32, f839 41 = z := ⟨_, rfl⟩
            have b851 : Bd v849 (0) (12) := (by rw [← ee850]; exact b841.2.1 41 (by decide))
            have q852 : elm (S803 7) 41 = v849.toInt := (elm_of c840 41).trans (congrArg Int32.toInt (ee850))
            have b853 : Bd v849 (1) (12) := ⟨by omega, (b851).2⟩
            have b854 : Bd ye13_7_41 (1) (12) := ⟨by omega, (Bye13_7_41).2⟩
            have q855 : elm (S_13 7) 43 = ye13_7_43.toInt := (elm_of c794 43).trans (congrArg Int32.toInt (ee801))
            obtain ⟨v856, ee857⟩ : ∃ z : Int32, f839 43 = z := ⟨_, rfl⟩
            have b858 : Bd v856 (0) (12) := (by rw [← ee857]; exact b841.2.2.2.1 43 (by decide))
            have q859 : elm (S803 7) 43 = v856.toInt := (elm_of c840 43).trans (congrArg Int32.toInt (ee857))
            have b860 : Bd v856 (1) (12) := ⟨by omega, (b858).2⟩
            have b861 : Bd ye13_7_43 (1) (12) := ⟨by omega, (Bye13_7_43).2⟩
            have q862 : elm (S_13 7) 49 = ye13_7_49.toInt := (elm_of c794 49).trans (congrArg Int32.toInt (ee802))
            obtain ⟨v863, ee864⟩ : ∃ z : Int32, f839 49 = z := ⟨_, rfl⟩
            have b865 : Bd v863 (0) (40) := (by rw [← ee864]; exact b841.2.2.2.2.2.2.2 49 (by decide))
            have q866 : elm (S803 7) 49 = v863.toInt := (elm_of c840 49).trans (congrArg Int32.toInt (ee864))
            have b867 : Bd v863 (0) (0) := ⟨(b865).1, by omega⟩
            refine lv_aload_n hx hb dX12_shore_125 rfl (lv_at hl 0 rfl) ?_
            refine xcVi E hs hQ hml hl.1 0 (gX12_isGood_0 l g ad hD S803 hI ) mX12_isGood q1650 (by decide) c834 rfl rfl ⟨(Nat.le_of_ble_eq_true rfl), (Nat.le_of_ble_eq_true rfl)⟩ ⟨(Nat.le_of_ble_eq_true rfl), (Nat.le_of_ble_eq_true rfl)⟩ (Nat.le_of_ble_eq_true rfl) rfl dX12_shore_126 (fun r868 S868 H locs hp868 hQ _ => ?_)
            obtain ⟨rfl, b868, g868_0, g868_1⟩ := hp868
            have q869 : fld (S803 0) 12 = v816.toInt := fld_of c834 rfl
            refine lv_if_eq (tgt := 136) hx hb dX12_shore_129 (by decide) (fun k870 => ?_) (fun k870 => ?_)
            · have h871 := ib_eq k870
              have b872 : Bd r868 (0) (0) := ⟨(b868).1, ((rf_eq b868 (by decide : Bd 0 (0) (0)) h871).1).2⟩
              clear g868_0
              have g873 := g868_1.resolve_left (by omega)
              clear g868_1
              have b874 : Bd v816 (1) (3) := ⟨by omega, (b817).2⟩
              refine lv_aload_n hx hb dX12_shore_136 rfl (lv_at hl 0 rfl) ?_
              refine xget E hQ 0 (by decide) c834 rfl 16 (by decide) q1484 rfl dX12_shore_137 ?_
              refine lv_iconst (v := 4) hx hb dX12_shore_140 (by decide) ?_
              refine lv_dup2_11 hx hb dX12_shore_141 rfl rfl ?_
              have c875 : S803 6 = .inl (g.2 0, 5, .inl f784) := ((o803 6 (by decide)).trans c785)
              refine xiald E hQ 6 (by decide) c875 (vp_in_lit 4 5 (by decide)) dX12_shore_142 ?_
              refine sb_at (P := fun z => W _ _ _ _ _ _ _ _ _ _ _ _ _ _ _ (F0 _ _ _ (.int z :: _))) (show f784 (4 : Int32).toNatClampNeg = ye13_6_4 from ee787) ?_
              refine lv_iconst (v := 1) hx hb dX12_shore_143 (by decide) ?_
              refine lv_iadd hx hb dX12_shore_144 ?_
              refine lv_topi (fun z876 e877 => ?_)
              have t878 := ib_add e877 b790 (by decide : Bd 1 (1) (1)) (by decide) (by decide)
              have b879 : Bd z876 (2) (34805) := ib_addb t878 b790 (by decide : Bd 1 (1) (1))
              have t878 : z876.toInt = ye13_6_4.toInt + 1 := fold_add t878 rfl (by decide)
              refine xiast E hs hQ 6 (by decide) c875 (vp_in_lit 4 5 (by decide)) dX12_shore_145 (fun H locs S880 eS880 hQ => ?_)
              have hI := invM_up_6 hI eS880 ⟨_, rfl, upd_b b786 (ib_wk b879 (by decide) (by decide))⟩
              have b882 : ∀ j, Bd ((upd f784 (4 : Int32).toNatClampNeg z876) j) (0) (40000) := upd_b b786 (ib_wk b879 (by decide) (by decide))
              have c881 : S880 6 = .inl (g.2 0, 5, .inl (upd f784 (4 : Int32).toNatClampNeg z876)) := up_at eS880 rfl
              have ef883 : EFp (S880 6) (S 6) 0 4 := ef_up (ef_tr hE13_6 (o803 6 (by decide))) c875 c881 (by decide)
              refine lv_goto (tgt := 13) hx hb dX12_shore_146 (by decide) ?_
              have c884 : S880 7 = .inl (g.2 0, 50, .inl f839) := (up_ne eS880 (by decide) c840)
              obtain ⟨v885, ee886⟩ : ∃ z : Int32, f839 46 = z := ⟨_, rfl⟩
              have b887 : Bd v885 (0) (8) := (by rw [← ee886]; exact b841.2.2.2.2.1 46 (by decide))
              obtain ⟨v888, ee889⟩ : ∃ z : Int32, f839 47 = z := ⟨_, rfl⟩
              have b890 : Bd v888 (0) (6) := (by rw [← ee889]; exact b841.2.2.2.2.2.1 47 (by decide))
              obtain ⟨v891, ee892⟩ : ∃ z : Int32, f839 48 = z := ⟨_, rfl⟩
              have b893 : Bd v891 (0) (3) := (by rw [← ee892]; exact b841.2.2.2.2.2.2.1 48 (by decide))
              have c894 : S880 0 = .inr (12, [.int v806, .ref (ad 1), .ref (ad 2), .ref (ad 3), .ref (ad 4), .ref (ad 5), .int v807, .int v809, .int v811, .int v813, .int v814, .long w815, .int v816, .int v818, .int v819, .int v820, .ref (ad 6), .ref (ad 7), .ref (ad 8), .ref (ad 9), .ref (ad 10), .ref (ad 11), .ref (ad 12), .ref (ad 13), .ref (ad 14), .ref (ad 15), .int v821, .int v823, .ref (ad 16), .int v825, .int v827, .int v829, .int v831, .int v832, .ref (ad 17), .ref (ad 18), .int v833, .ref (ad 19)]) := (up_ne eS880 (by decide) c834)
              exact ih13 _ _ _ _ v806 v807 v809 v811 v813 v814 w815 v816 v818 v819 v820 v821 v823 v825 v827 v829 v831 v832 v833 v842 v849 v856 v885 v888 v891 v863 z876 b808 b810 b812 (ib_wk b874 (by decide) (by decide)) b822 b824 b826 b828 b830 (ib_wk b846 (by decide) (by decide)) (ib_wk b853 (by decide) (by decide)) (ib_wk b860 (by decide) (by decide)) b887 b890 b893 b867 (ib_wk b879 (by decide) (by decide)) (by omega) (by omega) (by omega) (by omega) (by omega) (by omega) (by omega) (by omega) (by omega) (by omega) (by omega) hI (up_o (o_trans hf13 o803 (by decide)) eS880 (by decide)) c894 (ef_tr ef804 (up_eq (j := 7) eS880 (by decide))) ef883 (ef_tr ef805 (up_eq (j := 9) eS880 (by decide))) ((elm_of c884 40).trans (congrArg Int32.toInt (ee843))) ((elm_of c884 41).trans (congrArg Int32.toInt (ee850))) ((elm_of c884 43).trans (congrArg Int32.toInt (ee857))) ((elm_of c884 46).trans (congrArg Int32.toInt (ee886))) ((elm_of c884 47).trans (congrArg Int32.toInt (ee889))) ((elm_of c884 48).trans (congrArg Int32.toInt (ee892))) ((elm_of c884 49).trans (congrArg Int32.toInt (ee864))) ((elm_of c881 4).trans (congrArg Int32.toInt ((upd_s)))) (ht_tr u803_0 (up_eq (j := 7) eS880 (by decide)) (up_eq (j := 9) eS880 (by decide))) hQ (lv_sub hl [0] rfl)
            · have h895 := ib_ne k870
              have b896 : Bd r868 (1) (1) := rf_nlo b868 (by decide : Bd 0 (0) (0)) h895
              have g897 := g868_0.resolve_left (by omega)
              clear g868_0
              have b898 : Bd v816 (0) (0) := ⟨(b817).1, by omega⟩
              clear g868_1
              refine lv_aload_n hx hb dX12_shore_132 rfl (lv_at hl 0 rfl) ?_
              refine xcVv E hs hQ hml hl.1 0 (gX12_ends_0 l g ad hD S803 hI (by omega)) mX12_ends q1731 (by decide) c834 rfl rfl ⟨(Nat.le_of_ble_eq_true rfl), (Nat.le_of_ble_eq_true rfl)⟩ ⟨(Nat.le_of_ble_eq_true rfl), (Nat.le_of_ble_eq_true rfl)⟩ (Nat.le_of_ble_eq_true rfl) rfl dX12_shore_133 (fun S899 H locs hp899 hQ _ => ?_)
              obtain ⟨hI, o899, g899_0, g899_1, g899_2, g899_3⟩ := hp899
              obtain ⟨v900, v901, v903, v905, v907, v908, w909, v910, v912, v913, v914, v915, v917, v919, v921, v923, v925, v926, v927, c928, b902, b904, b906, b911, b916, b918, b920, b922, b924⟩ := invM_0 hI
              have c928 : S899 0 = .inr (12, [.int v900, .ref (ad 1), .ref (ad 2), .ref (ad 3), .ref (ad 4), .ref (ad 5), .int v901, .int v903, .int v905, .int v907, .int v908, .long w909, .int v910, .int v912, .int v913, .int v914, .ref (ad 6), .ref (ad 7), .ref (ad 8), .ref (ad 9), .ref (ad 10), .ref (ad 11), .ref (ad 12), .ref (ad 13), .ref (ad 14), .ref (ad 15), .int v915, .int v917, .ref (ad 16), .int v919, .int v921, .int v923, .int v925, .int v926, .ref (ad 17), .ref (ad 18), .int v927, .ref (ad 19)]) := c928
              have q929 : fld (S899 0) 6 = v901.toInt := fld_of c928 rfl
              have q930 : fld (S899 0) 7 = v903.toInt := fld_of c928 rfl
              have q931 : fld (S899 0) 8 = v905.toInt := fld_of c928 rfl
              have q932 : fld (S899 0) 12 = v910.toInt := fld_of c928 rfl
              refine lv_aload_n hx hb dX12_shore_136 rfl (lv_at hl 0 rfl) ?_
              refine xget E hQ 0 (by decide) c928 rfl 16 (by decide) q1484 rfl dX12_shore_137 ?_
              refine lv_iconst (v := 4) hx hb dX12_shore_140 (by decide) ?_
              refine lv_dup2_11 hx hb dX12_shore_141 rfl rfl ?_
              have c933 : S899 6 = .inl (g.2 0, 5, .inl f784) := ((o899 6 (by decide)).trans ((o803 6 (by decide)).trans c785))
              refine xiald E hQ 6 (by decide) c933 (vp_in_lit 4 5 (by decide)) dX12_shore_142 ?_
              refine sb_at (P := fun z => W _ _ _ _ _ _ _ _ _ _ _ _ _ _ _ (F0 _ _ _ (.int z :: _))) (show f784 (4 : Int32).toNatClampNeg = ye13_6_4 from ee787) ?_
              refine lv_iconst (v := 1) hx hb dX12_shore_143 (by decide) ?_
              refine lv_iadd hx hb dX12_shore_144 ?_
              refine lv_topi (fun z934 e935 => ?_)
              have t936 := ib_add e935 b790 (by decide : Bd 1 (1) (1)) (by decide) (by decide)
              have b937 : Bd z934 (2) (34805) := ib_addb t936 b790 (by decide : Bd 1 (1) (1))
              have t936 : z934.toInt = ye13_6_4.toInt + 1 := fold_add t936 rfl (by decide)
              refine xiast E hs hQ 6 (by decide) c933 (vp_in_lit 4 5 (by decide)) dX12_shore_145 (fun H locs S938 eS938 hQ => ?_)
              have hI := invM_up_6 hI eS938 ⟨_, rfl, upd_b b786 (ib_wk b937 (by decide) (by decide))⟩
              have b940 : ∀ j, Bd ((upd f784 (4 : Int32).toNatClampNeg z934) j) (0) (40000) := upd_b b786 (ib_wk b937 (by decide) (by decide))
              have c939 : S938 6 = .inl (g.2 0, 5, .inl (upd f784 (4 : Int32).toNatClampNeg z934)) := up_at eS938 rfl
              have ef941 : EFp (S938 6) (S 6) 0 4 := ef_up (ef_tr hE13_6 ((o899 6 (by decide)).trans (o803 6 (by decide)))) c933 c939 (by decide)
              refine lv_goto (tgt := 13) hx hb dX12_shore_146 (by decide) ?_
              have c942 : S938 7 = .inl (g.2 0, 50, .inl f839) := (up_ne eS938 (by decide) ((o899 7 (by decide)).trans c840))
              obtain ⟨v943, ee944⟩ : ∃ z : Int32, f839 46 = z := ⟨_, rfl⟩
              have b945 : Bd v943 (0) (8) := (by rw [← ee944]; exact b841.2.2.2.2.1 46 (by decide))
              obtain ⟨v946, ee947⟩ : ∃ z : Int32, f839 47 = z := ⟨_, rfl⟩
              have b948 : Bd v946 (0) (6) := (by rw [← ee947]; exact b841.2.2.2.2.2.1 47 (by decide))
              obtain ⟨v949, ee950⟩ : ∃ z : Int32, f839 48 = z := ⟨_, rfl⟩
              have b951 : Bd v949 (0) (3) := (by rw [← ee950]; exact b841.2.2.2.2.2.2.1 48 (by decide))
              have c952 : S938 0 = .inr (12, [.int v900, .ref (ad 1), .ref (ad 2), .ref (ad 3), .ref (ad 4), .ref (ad 5), .int v901, .int v903, .int v905, .int v907, .int v908, .long w909, .int v910, .int v912, .int v913, .int v914, .ref (ad 6), .ref (ad 7), .ref (ad 8), .ref (ad 9), .ref (ad 10), .ref (ad 11), .ref (ad 12), .ref (ad 13), .ref (ad 14), .ref (ad 15), .int v915, .int v917, .ref (ad 16), .int v919, .int v921, .int v923, .int v925, .int v926, .ref (ad 17), .ref (ad 18), .int v927, .ref (ad 19)]) := (up_ne eS938 (by decide) c928)
              exact ih13 _ _ _ _ v900 v901 v903 v905 v907 v908 w909 v910 v912 v913 v914 v915 v917 v919 v921 v923 v925 v926 v927 v842 v849 v856 v943 v946 v949 v863 z934 b902 b904 b906 b911 b916 b918 b920 b922 b924 (ib_wk b846 (by decide) (by decide)) (ib_wk b853 (by decide) (by decide)) (ib_wk b860 (by decide) (by decide)) b945 b948 b951 b867 (ib_wk b937 (by decide) (by decide)) (by omega) (by omega) (by omega) (by omega) (by omega) (by omega) (by omega) (by omega) (by omega) (by omega) (by omega) hI (up_o (o_trans (o_trans hf13 o803 (by decide)) o899 (by decide)) eS938 (by decide)) c952 (ef_tr ef804 ((up_eq (j := 7) eS938 (by decide)).trans (o899 7 (by decide)))) ef941 (ef_tr ef805 ((up_eq (j := 9) eS938 (by decide)).trans (o899 9 (by decide)))) ((elm_of c942 40).trans (congrArg Int32.toInt (ee843))) ((elm_of c942 41).trans (congrArg Int32.toInt (ee850))) ((elm_of c942 43).trans (congrArg Int32.toInt (ee857))) ((elm_of c942 46).trans (congrArg Int32.toInt (ee944))) ((elm_of c942 47).trans (congrArg Int32.toInt (ee947))) ((elm_of c942 48).trans (congrArg Int32.toInt (ee950))) ((elm_of c942 49).trans (congrArg Int32.toInt (ee864))) ((elm_of c939 4).trans (congrArg Int32.toInt ((upd_s)))) (ht_tr u803_0 ((up_eq (j := 7) eS938 (by decide)).trans (o899 7 (by decide))) ((up_eq (j := 9) eS938 (by decide)).trans (o899 9 (by decide)))) hQ (lv_sub hl [0] rfl)
          · have h953 := ib_eq k788
            have b954 : Bd ye13_6_4 (0) (0) := ⟨(b243).1, ((rf_eq b243 (by decide : Bd 0 (0) (0)) h953).1).2⟩
            refine lv_aload_n hx hb dX12_shore_36 rfl (lv_at hl 0 rfl) ?_
            refine lv_ldc2 (v := 10266269) hx hb E.2.2.1 (E.2.2.2.1 _ q1654) dX12_shore_37 ?_
            have q955 : fld (S_13 0) 6 = y13_0_6.toInt := fld_of cl13_0 rfl
            have q956 : fld (S_13 0) 7 = y13_0_7.toInt := fld_of cl13_0 rfl
            refine xcVv E hs hQ hml hl.1 0 (gX12_asks_0 l g ad hD S_13 hI 10266269 (by omega)) mX12_asks q1655 (by decide) cl13_0 rfl rfl ⟨(Nat.le_of_ble_eq_true rfl), (Nat.le_of_ble_eq_true rfl)⟩ ⟨(Nat.le_of_ble_eq_true rfl), (Nat.le_of_ble_eq_true rfl)⟩ (Nat.le_of_ble_eq_true rfl) rfl dX12_shore_40 (fun S957 H locs hp957 hQ _ => ?_)
            obtain ⟨hI, o957, g957_0, g957_1, g957_2⟩ := hp957
            obtain ⟨v958, v959, v961, v963, v965, v966, w967, v968, v970, v971, v972, v973, v975, v977, v979, v981, v983, v984, v985, c986, b960, b962, b964, b969, b974, b976, b978, b980, b982⟩ := invM_0 hI
            have c986 : S957 0 = .inr (12, [.int v958, .ref (ad 1), .ref (ad 2), .ref (ad 3), .ref (ad 4), .ref (ad 5), .int v959, .int v961, .int v963, .int v965, .int v966, .long w967, .int v968, .int v970, .int v971, .int v972, .ref (ad 6), .ref (ad 7), .ref (ad 8), .ref (ad 9), .ref (ad 10), .ref (ad 11), .ref (ad 12), .ref (ad 13), .ref (ad 14), .ref (ad 15), .int v973, .int v975, .ref (ad 16), .int v977, .int v979, .int v981, .int v983, .int v984, .ref (ad 17), .ref (ad 18), .int v985, .ref (ad 19)]) := c986
            have q987 : fld (S957 0) 6 = v959.toInt := fld_of c986 rfl
            have q988 : fld (S957 0) 7 = v961.toInt := fld_of c986 rfl
            have q989 : fld (S_13 0) 8 = y13_0_8.toInt := fld_of cl13_0 rfl
            have q990 : fld (S957 0) 8 = v963.toInt := fld_of c986 rfl
            refine lv_aload_n hx hb dX12_shore_43 rfl (lv_at hl 0 rfl) ?_
            refine lv_iconst (v := 0) hx hb dX12_shore_44 (by decide) ?_
            refine lv_aload_n hx hb dX12_shore_45 rfl (lv_at hl 0 rfl) ?_
            refine lv_ldc2 (v := 1701829) hx hb E.2.2.1 (E.2.2.2.1 _ q1671) dX12_shore_46 ?_
            refine lv_iconst (v := 3) hx hb dX12_shore_49 (by decide) ?_
            refine lv_bipush (v := 12) hx hb dX12_shore_50 (by decide) ?_
            refine xcVi E hs hQ hml hl.1 0 (gX12_numberw_0 l g ad hD S957 hI 1701829 3 12 (by decide : Bd 3 (3) (3)) (by decide : Bd 12 (12) (12)) (by omega)) mX12_number_ q1672 (by decide) c986 rfl rfl ⟨(Nat.le_of_ble_eq_true rfl), (Nat.le_of_ble_eq_true rfl)⟩ ⟨(Nat.le_of_ble_eq_true rfl), (Nat.le_of_ble_eq_true rfl)⟩ (Nat.le_of_ble_eq_true rfl) rfl dX12_shore_52 (fun r991 S991 H locs hp991 hQ _ => ?_)
            obtain ⟨hI, o991, b991, g991_0, g991_1, g991_2⟩ := hp991
            obtain ⟨v992, v993, v995, v997, v999, v1000, w1001, v1002, v1004, v1005, v1006, v1007, v1009, v1011, v1013, v1015, v1017, v1018, v1019, c1020, b994, b996, b998, b1003, b1008, b1010, b1012, b1014, b1016⟩ := invM_0 hI
            have c1020 : S991 0 = .inr (12, [.int v992, .ref (ad 1), .ref (ad 2), .ref (ad 3), .ref (ad 4), .ref (ad 5), .int v993, .int v995, .int v997, .int v999, .int v1000, .long w1001, .int v1002, .int v1004, .int v1005, .int v1006, .ref (ad 6), .ref (ad 7), .ref (ad 8), .ref (ad 9), .ref (ad 10), .ref (ad 11), .ref (ad 12), .ref (ad 13), .ref (ad 14), .ref (ad 15), .int v1007, .int v1009, .ref (ad 16), .int v1011, .int v1013, .int v1015, .int v1017, .int v1018, .ref (ad 17), .ref (ad 18), .int v1019, .ref (ad 19)]) := c1020
            have q1021 : fld (S991 0) 6 = v993.toInt := fld_of c1020 rfl
            have q1022 : fld (S991 0) 7 = v995.toInt := fld_of c1020 rfl
            have q1023 : fld (S991 0) 8 = v997.toInt := fld_of c1020 rfl
            obtain ⟨f1024, c1025, b1026⟩ := invM_7 hI
            have ee1027 : f1024 41 = ye13_7_41 := Int32.toInt_inj.mp ((elm_of c1025 41).symm.trans ((congrArg (fun e => elm e 41) ((o991 7 (by decide)).trans (o957 7 (by decide)))).trans hy13_7_41))
            have ee1028 : f1024 43 = ye13_7_43 := Int32.toInt_inj.mp ((elm_of c1025 43).symm.trans ((congrArg (fun e => elm e 43) ((o991 7 (by decide)).trans (o957 7 (by decide)))).trans hy13_7_43))
            have ee1029 : f1024 46 = ye13_7_46 := Int32.toInt_inj.mp ((elm_of c1025 46).symm.trans ((congrArg (fun e => elm e 46) ((o991 7 (by decide)).trans (o957 7 (by decide)))).trans hy13_7_46))
            have ee1030 : f1024 47 = ye13_7_47 := Int32.toInt_inj.mp ((elm_of c1025 47).symm.trans ((congrArg (fun e => elm e 47) ((o991 7 (by decide)).trans (o957 7 (by decide)))).trans hy13_7_47))
            have ee1031 : f1024 48 = ye13_7_48 := Int32.toInt_inj.mp ((elm_of c1025 48).symm.trans ((congrArg (fun e => elm e 48) ((o991 7 (by decide)).trans (o957 7 (by decide)))).trans hy13_7_48))
            have ee1032 : f1024 49 = ye13_7_49 := Int32.toInt_inj.mp ((elm_of c1025 49).symm.trans ((congrArg (fun e => elm e 49) ((o991 7 (by decide)).trans (o957 7 (by decide)))).trans hy13_7_49))
            refine xcVv E hs hQ hml hl.1 0 (gX12_tells_0 l g ad hD S991 hI r991 (ib_wk b991 (by decide) (by decide))) mX12_tells q1629 (by decide) c1020 rfl rfl ⟨(Nat.le_of_ble_eq_true rfl), (Nat.le_of_ble_eq_true rfl)⟩ ⟨(Nat.le_of_ble_eq_true rfl), (Nat.le_of_ble_eq_true rfl)⟩ (Nat.le_of_ble_eq_true rfl) rfl dX12_shore_55 (fun S1033 H locs hp1033 hQ _ => ?_)
            obtain ⟨hI, o1033, g1033_0, g1033_1, g1033_2, g1033_3, g1033_4, g1033_5, g1033_6, ef1033_7⟩ := hp1033
            have ef1034 : EFp (S1033 7) (S 7) 0 40 := ef_tt ef1033_7 (ef_tr hE13_7 ((o991 7 (by decide)).trans (o957 7 (by decide))))
            obtain ⟨f1035, c1036, b1037⟩ := invM_7 hI
            obtain ⟨v1038, ee1039⟩ : ∃ z : Int32, f1035 40 = z := ⟨_, rfl⟩
            have b1040 : Bd v1038 (0) (12) := (by rw [← ee1039]; exact b1037.1 40 (by decide))
            have q1041 : elm (S1033 7) 40 = v1038.toInt := (elm_of c1036 40).trans (congrArg Int32.toInt (ee1039))
            have b1042 : Bd v1038 (3) (12) := ⟨by omega, (b1040).2⟩
            have q1043 : elm (S991 7) 41 = ye13_7_41.toInt := (elm_of c1025 41).trans (congrArg Int32.toInt (ee1027))
            obtain ⟨v1044, ee1045⟩ : ∃ z : Int32, f1035 41 = z := ⟨_, rfl⟩
            have b1046 : Bd v1044 (0) (12) := (by rw [← ee1045]; exact b1037.2.1 41 (by decide))
            have q1047 : elm (S1033 7) 41 = v1044.toInt := (elm_of c1036 41).trans (congrArg Int32.toInt (ee1045))
            have q1048 : elm (S991 7) 43 = ye13_7_43.toInt := (elm_of c1025 43).trans (congrArg Int32.toInt (ee1028))
            obtain ⟨v1049, ee1050⟩ : ∃ z : Int32, f1035 43 = z := ⟨_, rfl⟩
            have b1051 : Bd v1049 (0) (12) := (by rw [← ee1050]; exact b1037.2.2.2.1 43 (by decide))
            have q1052 : elm (S1033 7) 43 = v1049.toInt := (elm_of c1036 43).trans (congrArg Int32.toInt (ee1050))
            have q1053 : elm (S991 7) 46 = ye13_7_46.toInt := (elm_of c1025 46).trans (congrArg Int32.toInt (ee1029))
            obtain ⟨v1054, ee1055⟩ : ∃ z : Int32, f1035 46 = z := ⟨_, rfl⟩
            have b1056 : Bd v1054 (0) (8) := (by rw [← ee1055]; exact b1037.2.2.2.2.1 46 (by decide))
            have q1057 : elm (S1033 7) 46 = v1054.toInt := (elm_of c1036 46).trans (congrArg Int32.toInt (ee1055))
            have b1058 : Bd v1054 (0) (0) := ⟨(b1056).1, by omega⟩
            have b1059 : Bd ye13_7_46 (0) (0) := ⟨(Bye13_7_46).1, by omega⟩
            have q1060 : elm (S991 7) 47 = ye13_7_47.toInt := (elm_of c1025 47).trans (congrArg Int32.toInt (ee1030))
            obtain ⟨v1061, ee1062⟩ : ∃ z : Int32, f1035 47 = z := ⟨_, rfl⟩
            have b1063 : Bd v1061 (0) (6) := (by rw [← ee1062]; exact b1037.2.2.2.2.2.1 47 (by decide))
            have q1064 : elm (S1033 7) 47 = v1061.toInt := (elm_of c1036 47).trans (congrArg Int32.toInt (ee1062))
            have q1065 : elm (S991 7) 48 = ye13_7_48.toInt := (elm_of c1025 48).trans (congrArg Int32.toInt (ee1031))
            obtain ⟨v1066, ee1067⟩ : ∃ z : Int32, f1035 48 = z := ⟨_, rfl⟩
            have b1068 : Bd v1066 (0) (3) := (by rw [← ee1067]; exact b1037.2.2.2.2.2.2.1 48 (by decide))
            have q1069 : elm (S1033 7) 48 = v1066.toInt := (elm_of c1036 48).trans (congrArg Int32.toInt (ee1067))
            have q1070 : elm (S991 7) 49 = ye13_7_49.toInt := (elm_of c1025 49).trans (congrArg Int32.toInt (ee1032))
            obtain ⟨v1071, ee1072⟩ : ∃ z : Int32, f1035 49 = z := ⟨_, rfl⟩
            have b1073 : Bd v1071 (0) (40) := (by rw [← ee1072]; exact b1037.2.2.2.2.2.2.2 49 (by decide))
            have q1074 : elm (S1033 7) 49 = v1071.toInt := (elm_of c1036 49).trans (congrArg Int32.toInt (ee1072))
            have b1075 : Bd v1071 (0) (0) := ⟨(b1073).1, by omega⟩
            refine lv_aload_n hx hb dX12_shore_58 rfl (lv_at hl 0 rfl) ?_
            refine lv_iconst (v := 1) hx hb dX12_shore_59 (by decide) ?_
            refine lv_aload_n hx hb dX12_shore_60 rfl (lv_at hl 0 rfl) ?_
            refine lv_ldc2 (v := 3436186) hx hb E.2.2.1 (E.2.2.2.1 _ q1680) dX12_shore_61 ?_
            refine lv_iconst (v := 1) hx hb dX12_shore_64 (by decide) ?_
            refine lv_bipush (v := 12) hx hb dX12_shore_65 (by decide) ?_
            have c1076 : S1033 0 = .inr (12, [.int v992, .ref (ad 1), .ref (ad 2), .ref (ad 3), .ref (ad 4), .ref (ad 5), .int v993, .int v995, .int v997, .int v999, .int v1000, .long w1001, .int v1002, .int v1004, .int v1005, .int v1006, .ref (ad 6), .ref (ad 7), .ref (ad 8), .ref (ad 9), .ref (ad 10), .ref (ad 11), .ref (ad 12), .ref (ad 13), .ref (ad 14), .ref (ad 15), .int v1007, .int v1009, .ref (ad 16), .int v1011, .int v1013, .int v1015, .int v1017, .int v1018, .ref (ad 17), .ref (ad 18), .int v1019, .ref (ad 19)]) := ((o1033 0 (by decide)).trans c1020)
            have q1077 : fld (S1033 0) 6 = v993.toInt := fld_of c1076 rfl
            have q1078 : fld (S1033 0) 7 = v995.toInt := fld_of c1076 rfl
            refine xcVi E hs hQ hml hl.1 0 (gX12_numberw_1 l g ad hD S1033 hI 3436186 1 12 (by decide : Bd 1 (1) (1)) (by decide : Bd 12 (12) (12)) (by omega)) mX12_number_ q1672 (by decide) c1076 rfl rfl ⟨(Nat.le_of_ble_eq_true rfl), (Nat.le_of_ble_eq_true rfl)⟩ ⟨(Nat.le_of_ble_eq_true rfl), (Nat.le_of_ble_eq_true rfl)⟩ (Nat.le_of_ble_eq_true rfl) rfl dX12_shore_67 (fun r1079 S1079 H locs hp1079 hQ _ => ?_)
            obtain ⟨hI, o1079, b1079, g1079_0, g1079_1, g1079_2⟩ := hp1079
            obtain ⟨v1080, v1081, v1083, v1085, v1087, v1088, w1089, v1090, v1092, v1093, v1094, v1095, v1097, v1099, v1101, v1103, v1105, v1106, v1107, c1108, b1082, b1084, b1086, b1091, b1096, b1098, b1100, b1102, b1104⟩ := invM_0 hI
            have c1108 : S1079 0 = .inr (12, [.int v1080, .ref (ad 1), .ref (ad 2), .ref (ad 3), .ref (ad 4), .ref (ad 5), .int v1081, .int v1083, .int v1085, .int v1087, .int v1088, .long w1089, .int v1090, .int v1092, .int v1093, .int v1094, .ref (ad 6), .ref (ad 7), .ref (ad 8), .ref (ad 9), .ref (ad 10), .ref (ad 11), .ref (ad 12), .ref (ad 13), .ref (ad 14), .ref (ad 15), .int v1095, .int v1097, .ref (ad 16), .int v1099, .int v1101, .int v1103, .int v1105, .int v1106, .ref (ad 17), .ref (ad 18), .int v1107, .ref (ad 19)]) := c1108
            have q1109 : fld (S1079 0) 6 = v1081.toInt := fld_of c1108 rfl
            have q1110 : fld (S1079 0) 7 = v1083.toInt := fld_of c1108 rfl
            have q1111 : fld (S1033 0) 8 = v997.toInt := fld_of c1076 rfl
            have q1112 : fld (S1079 0) 8 = v1085.toInt := fld_of c1108 rfl
            have c1113 : S1079 7 = .inl (g.2 0, 50, .inl f1035) := ((o1079 7 (by decide)).trans c1036)
            refine xcVv E hs hQ hml hl.1 0 (gX12_tells_1 l g ad hD S1079 hI r1079 (ib_wk b1079 (by decide) (by decide))) mX12_tells q1629 (by decide) c1108 rfl rfl ⟨(Nat.le_of_ble_eq_true rfl), (Nat.le_of_ble_eq_true rfl)⟩ ⟨(Nat.le_of_ble_eq_true rfl), (Nat.le_of_ble_eq_true rfl)⟩ (Nat.le_of_ble_eq_true rfl) rfl dX12_shore_70 (fun S1114 H locs hp1114 hQ _ => ?_)
            obtain ⟨hI, o1114, g1114_0, g1114_1, g1114_2, g1114_3, g1114_4, g1114_5, g1114_6, ef1114_7⟩ := hp1114
            have ef1115 : EFp (S1114 7) (S 7) 0 40 := ef_tt ef1114_7 (ef_tr ef1034 (o1079 7 (by decide)))
            obtain ⟨f1116, c1117, b1118⟩ := invM_7 hI
            obtain ⟨v1119, ee1120⟩ : ∃ z : Int32, f1116 41 = z := ⟨_, rfl⟩
            have b1121 : Bd v1119 (0) (12) := (by rw [← ee1120]; exact b1118.2.1 41 (by decide))
            have q1122 : elm (S1114 7) 41 = v1119.toInt := (elm_of c1117 41).trans (congrArg Int32.toInt (ee1120))
            have b1123 : Bd v1119 (1) (12) := ⟨by omega, (b1121).2⟩
            have q1124 : elm (S1079 7) 40 = v1038.toInt := (elm_of c1113 40).trans (congrArg Int32.toInt (ee1039))
            obtain ⟨v1125, ee1126⟩ : ∃ z : Int32, f1116 40 = z := ⟨_, rfl⟩
            have b1127 : Bd v1125 (0) (12) := (by rw [← ee1126]; exact b1118.1 40 (by decide))
            have q1128 : elm (S1114 7) 40 = v1125.toInt := (elm_of c1117 40).trans (congrArg Int32.toInt (ee1126))
            have b1129 : Bd v1125 (3) (12) := ⟨by omega, (b1127).2⟩
            have q1130 : elm (S1079 7) 43 = v1049.toInt := (elm_of c1113 43).trans (congrArg Int32.toInt (ee1050))
            obtain ⟨v1131, ee1132⟩ : ∃ z : Int32, f1116 43 = z := ⟨_, rfl⟩
            have b1133 : Bd v1131 (0) (12) := (by rw [← ee1132]; exact b1118.2.2.2.1 43 (by decide))
            have q1134 : elm (S1114 7) 43 = v1131.toInt := (elm_of c1117 43).trans (congrArg Int32.toInt (ee1132))
            have q1135 : elm (S1079 7) 46 = v1054.toInt := (elm_of c1113 46).trans (congrArg Int32.toInt (ee1055))
            obtain ⟨v1136, ee1137⟩ : ∃ z : Int32, f1116 46 = z := ⟨_, rfl⟩
            have b1138 : Bd v1136 (0) (8) := (by rw [← ee1137]; exact b1118.2.2.2.2.1 46 (by decide))
            have q1139 : elm (S1114 7) 46 = v1136.toInt := (elm_of c1117 46).trans (congrArg Int32.toInt (ee1137))
            have b1140 : Bd v1136 (0) (0) := ⟨(b1138).1, by omega⟩
            have q1141 : elm (S1079 7) 47 = v1061.toInt := (elm_of c1113 47).trans (congrArg Int32.toInt (ee1062))
            obtain ⟨v1142, ee1143⟩ : ∃ z : Int32, f1116 47 = z := ⟨_, rfl⟩
            have b1144 : Bd v1142 (0) (6) := (by rw [← ee1143]; exact b1118.2.2.2.2.2.1 47 (by decide))
            have q1145 : elm (S1114 7) 47 = v1142.toInt := (elm_of c1117 47).trans (congrArg Int32.toInt (ee1143))
            have q1146 : elm (S1079 7) 48 = v1066.toInt := (elm_of c1113 48).trans (congrArg Int32.toInt (ee1067))
            obtain ⟨v1147, ee1148⟩ : ∃ z : Int32, f1116 48 = z := ⟨_, rfl⟩
            have b1149 : Bd v1147 (0) (3) := (by rw [← ee1148]; exact b1118.2.2.2.2.2.2.1 48 (by decide))
            have q1150 : elm (S1114 7) 48 = v1147.toInt := (elm_of c1117 48).trans (congrArg Int32.toInt (ee1148))
            have q1151 : elm (S1079 7) 49 = v1071.toInt := (elm_of c1113 49).trans (congrArg Int32.toInt (ee1072))
            obtain ⟨v1152, ee1153⟩ : ∃ z : Int32, f1116 49 = z := ⟨_, rfl⟩
            have b1154 : Bd v1152 (0) (40) := (by rw [← ee1153]; exact b1118.2.2.2.2.2.2.2 49 (by decide))
            have q1155 : elm (S1114 7) 49 = v1152.toInt := (elm_of c1117 49).trans (congrArg Int32.toInt (ee1153))
            have b1156 : Bd v1152 (0) (0) := ⟨(b1154).1, by omega⟩
            refine lv_aload_n hx hb dX12_shore_73 rfl (lv_at hl 0 rfl) ?_
            refine lv_iconst (v := 2) hx hb dX12_shore_74 (by decide) ?_
            refine lv_aload_n hx hb dX12_shore_75 rfl (lv_at hl 0 rfl) ?_
            refine lv_ldc2 (v := 10334396) hx hb E.2.2.1 (E.2.2.2.1 _ q1681) dX12_shore_76 ?_
            refine lv_iconst (v := 0) hx hb dX12_shore_79 (by decide) ?_
            refine lv_bipush (v := 6) hx hb dX12_shore_80 (by decide) ?_
            have c1157 : S1114 0 = .inr (12, [.int v1080, .ref (ad 1), .ref (ad 2), .ref (ad 3), .ref (ad 4), .ref (ad 5), .int v1081, .int v1083, .int v1085, .int v1087, .int v1088, .long w1089, .int v1090, .int v1092, .int v1093, .int v1094, .ref (ad 6), .ref (ad 7), .ref (ad 8), .ref (ad 9), .ref (ad 10), .ref (ad 11), .ref (ad 12), .ref (ad 13), .ref (ad 14), .ref (ad 15), .int v1095, .int v1097, .ref (ad 16), .int v1099, .int v1101, .int v1103, .int v1105, .int v1106, .ref (ad 17), .ref (ad 18), .int v1107, .ref (ad 19)]) := ((o1114 0 (by decide)).trans c1108)
            have q1158 : fld (S1114 0) 6 = v1081.toInt := fld_of c1157 rfl
            have q1159 : fld (S1114 0) 7 = v1083.toInt := fld_of c1157 rfl
            refine xcVi E hs hQ hml hl.1 0 (gX12_numberw_2 l g ad hD S1114 hI 10334396 0 6 (by decide : Bd 0 (0) (0)) (by decide : Bd 6 (6) (6)) (by omega)) mX12_number_ q1672 (by decide) c1157 rfl rfl ⟨(Nat.le_of_ble_eq_true rfl), (Nat.le_of_ble_eq_true rfl)⟩ ⟨(Nat.le_of_ble_eq_true rfl), (Nat.le_of_ble_eq_true rfl)⟩ (Nat.le_of_ble_eq_true rfl) rfl dX12_shore_82 (fun r1160 S1160 H locs hp1160 hQ _ => ?_)
            obtain ⟨hI, o1160, b1160, g1160_0, g1160_1, g1160_2⟩ := hp1160
            obtain ⟨v1161, v1162, v1164, v1166, v1168, v1169, w1170, v1171, v1173, v1174, v1175, v1176, v1178, v1180, v1182, v1184, v1186, v1187, v1188, c1189, b1163, b1165, b1167, b1172, b1177, b1179, b1181, b1183, b1185⟩ := invM_0 hI
            have c1189 : S1160 0 = .inr (12, [.int v1161, .ref (ad 1), .ref (ad 2), .ref (ad 3), .ref (ad 4), .ref (ad 5), .int v1162, .int v1164, .int v1166, .int v1168, .int v1169, .long w1170, .int v1171, .int v1173, .int v1174, .int v1175, .ref (ad 6), .ref (ad 7), .ref (ad 8), .ref (ad 9), .ref (ad 10), .ref (ad 11), .ref (ad 12), .ref (ad 13), .ref (ad 14), .ref (ad 15), .int v1176, .int v1178, .ref (ad 16), .int v1180, .int v1182, .int v1184, .int v1186, .int v1187, .ref (ad 17), .ref (ad 18), .int v1188, .ref (ad 19)]) := c1189
            have q1190 : fld (S1160 0) 6 = v1162.toInt := fld_of c1189 rfl
            have q1191 : fld (S1160 0) 7 = v1164.toInt := fld_of c1189 rfl
            have q1192 : fld (S1114 0) 8 = v1085.toInt := fld_of c1157 rfl
            have q1193 : fld (S1160 0) 8 = v1166.toInt := fld_of c1189 rfl
            have c1194 : S1160 7 = .inl (g.2 0, 50, .inl f1116) := ((o1160 7 (by decide)).trans c1117)
            refine xcVv E hs hQ hml hl.1 0 (gX12_tells_2 l g ad hD S1160 hI r1160 b1160) mX12_tells q1629 (by decide) c1189 rfl rfl ⟨(Nat.le_of_ble_eq_true rfl), (Nat.le_of_ble_eq_true rfl)⟩ ⟨(Nat.le_of_ble_eq_true rfl), (Nat.le_of_ble_eq_true rfl)⟩ (Nat.le_of_ble_eq_true rfl) rfl dX12_shore_85 (fun S1195 H locs hp1195 hQ _ => ?_)
            obtain ⟨hI, o1195, g1195_0, g1195_1, g1195_2, g1195_3, g1195_4, g1195_5, g1195_6, ef1195_7⟩ := hp1195
            have ef1196 : EFp (S1195 7) (S 7) 0 40 := ef_tt ef1195_7 (ef_tr ef1115 (o1160 7 (by decide)))
            have q1197 : elm (S1160 7) 40 = v1125.toInt := (elm_of c1194 40).trans (congrArg Int32.toInt (ee1126))
            obtain ⟨f1198, c1199, b1200⟩ := invM_7 hI
            obtain ⟨v1201, ee1202⟩ : ∃ z : Int32, f1198 40 = z := ⟨_, rfl⟩
            have b1203 : Bd v1201 (0) (12) := (by rw [← ee1202]; exact b1200.1 40 (by decide))
            have q1204 : elm (S1195 7) 40 = v1201.toInt := (elm_of c1199 40).trans (congrArg Int32.toInt (ee1202))
            have b1205 : Bd v1201 (3) (12) := ⟨by omega, (b1203).2⟩
            have q1206 : elm (S1160 7) 41 = v1119.toInt := (elm_of c1194 41).trans (congrArg Int32.toInt (ee1120))
            obtain ⟨v1207, ee1208⟩ : ∃ z : Int32, f1198 41 = z := ⟨_, rfl⟩
            have b1209 : Bd v1207 (0) (12) := (by rw [← ee1208]; exact b1200.2.1 41 (by decide))
            have q1210 : elm (S1195 7) 41 = v1207.toInt := (elm_of c1199 41).trans (congrArg Int32.toInt (ee1208))
            have b1211 : Bd v1207 (1) (12) := ⟨by omega, (b1209).2⟩
            have q1212 : elm (S1160 7) 43 = v1131.toInt := (elm_of c1194 43).trans (congrArg Int32.toInt (ee1132))
            obtain ⟨v1213, ee1214⟩ : ∃ z : Int32, f1198 43 = z := ⟨_, rfl⟩
            have b1215 : Bd v1213 (0) (12) := (by rw [← ee1214]; exact b1200.2.2.2.1 43 (by decide))
            have q1216 : elm (S1195 7) 43 = v1213.toInt := (elm_of c1199 43).trans (congrArg Int32.toInt (ee1214))
            have q1217 : elm (S1160 7) 46 = v1136.toInt := (elm_of c1194 46).trans (congrArg Int32.toInt (ee1137))
            obtain ⟨v1218, ee1219⟩ : ∃ z : Int32, f1198 46 = z := ⟨_, rfl⟩
            have b1220 : Bd v1218 (0) (8) := (by rw [← ee1219]; exact b1200.2.2.2.2.1 46 (by decide))
            have q1221 : elm (S1195 7) 46 = v1218.toInt := (elm_of c1199 46).trans (congrArg Int32.toInt (ee1219))
            have b1222 : Bd v1218 (0) (0) := ⟨(b1220).1, by omega⟩
            have q1223 : elm (S1160 7) 47 = v1142.toInt := (elm_of c1194 47).trans (congrArg Int32.toInt (ee1143))
            obtain ⟨v1224, ee1225⟩ : ∃ z : Int32, f1198 47 = z := ⟨_, rfl⟩
            have b1226 : Bd v1224 (0) (6) := (by rw [← ee1225]; exact b1200.2.2.2.2.2.1 47 (by decide))
            have q1227 : elm (S1195 7) 47 = v1224.toInt := (elm_of c1199 47).trans (congrArg Int32.toInt (ee1225))
            have q1228 : elm (S1160 7) 48 = v1147.toInt := (elm_of c1194 48).trans (congrArg Int32.toInt (ee1148))
            obtain ⟨v1229, ee1230⟩ : ∃ z : Int32, f1198 48 = z := ⟨_, rfl⟩
            have b1231 : Bd v1229 (0) (3) := (by rw [← ee1230]; exact b1200.2.2.2.2.2.2.1 48 (by decide))
            have q1232 : elm (S1195 7) 48 = v1229.toInt := (elm_of c1199 48).trans (congrArg Int32.toInt (ee1230))
            have q1233 : elm (S1160 7) 49 = v1152.toInt := (elm_of c1194 49).trans (congrArg Int32.toInt (ee1153))
            obtain ⟨v1234, ee1235⟩ : ∃ z : Int32, f1198 49 = z := ⟨_, rfl⟩
            have b1236 : Bd v1234 (0) (40) := (by rw [← ee1235]; exact b1200.2.2.2.2.2.2.2 49 (by decide))
            have q1237 : elm (S1195 7) 49 = v1234.toInt := (elm_of c1199 49).trans (congrArg Int32.toInt (ee1235))
            have b1238 : Bd v1234 (0) (0) := ⟨(b1236).1, by omega⟩
            refine lv_aload_n hx hb dX12_shore_88 rfl (lv_at hl 0 rfl) ?_
            refine lv_iconst (v := 3) hx hb dX12_shore_89 (by decide) ?_
            refine lv_aload_n hx hb dX12_shore_90 rfl (lv_at hl 0 rfl) ?_
            refine lv_ldc2 (v := 3701) hx hb E.2.2.1 (E.2.2.2.1 _ q1682) dX12_shore_91 ?_
            refine lv_iconst (v := 1) hx hb dX12_shore_94 (by decide) ?_
            refine lv_bipush (v := 12) hx hb dX12_shore_95 (by decide) ?_
            have c1239 : S1195 0 = .inr (12, [.int v1161, .ref (ad 1), .ref (ad 2), .ref (ad 3), .ref (ad 4), .ref (ad 5), .int v1162, .int v1164, .int v1166, .int v1168, .int v1169, .long w1170, .int v1171, .int v1173, .int v1174, .int v1175, .ref (ad 6), .ref (ad 7), .ref (ad 8), .ref (ad 9), .ref (ad 10), .ref (ad 11), .ref (ad 12), .ref (ad 13), .ref (ad 14), .ref (ad 15), .int v1176, .int v1178, .ref (ad 16), .int v1180, .int v1182, .int v1184, .int v1186, .int v1187, .ref (ad 17), .ref (ad 18), .int v1188, .ref (ad 19)]) := ((o1195 0 (by decide)).trans c1189)
            have q1240 : fld (S1195 0) 6 = v1162.toInt := fld_of c1239 rfl
            have q1241 : fld (S1195 0) 7 = v1164.toInt := fld_of c1239 rfl
            refine xcVi E hs hQ hml hl.1 0 (gX12_numberw_1 l g ad hD S1195 hI 3701 1 12 (by decide : Bd 1 (1) (1)) (by decide : Bd 12 (12) (12)) (by omega)) mX12_number_ q1672 (by decide) c1239 rfl rfl ⟨(Nat.le_of_ble_eq_true rfl), (Nat.le_of_ble_eq_true rfl)⟩ ⟨(Nat.le_of_ble_eq_true rfl), (Nat.le_of_ble_eq_true rfl)⟩ (Nat.le_of_ble_eq_true rfl) rfl dX12_shore_97 (fun r1242 S1242 H locs hp1242 hQ _ => ?_)
            obtain ⟨hI, o1242, b1242, g1242_0, g1242_1, g1242_2⟩ := hp1242
            obtain ⟨v1243, v1244, v1246, v1248, v1250, v1251, w1252, v1253, v1255, v1256, v1257, v1258, v1260, v1262, v1264, v1266, v1268, v1269, v1270, c1271, b1245, b1247, b1249, b1254, b1259, b1261, b1263, b1265, b1267⟩ := invM_0 hI
            have c1271 : S1242 0 = .inr (12, [.int v1243, .ref (ad 1), .ref (ad 2), .ref (ad 3), .ref (ad 4), .ref (ad 5), .int v1244, .int v1246, .int v1248, .int v1250, .int v1251, .long w1252, .int v1253, .int v1255, .int v1256, .int v1257, .ref (ad 6), .ref (ad 7), .ref (ad 8), .ref (ad 9), .ref (ad 10), .ref (ad 11), .ref (ad 12), .ref (ad 13), .ref (ad 14), .ref (ad 15), .int v1258, .int v1260, .ref (ad 16), .int v1262, .int v1264, .int v1266, .int v1268, .int v1269, .ref (ad 17), .ref (ad 18), .int v1270, .ref (ad 19)]) := c1271
            have q1272 : fld (S1242 0) 6 = v1244.toInt := fld_of c1271 rfl
            have q1273 : fld (S1242 0) 7 = v1246.toInt := fld_of c1271 rfl
            have q1274 : fld (S1195 0) 8 = v1166.toInt := fld_of c1239 rfl
            have q1275 : fld (S1242 0) 8 = v1248.toInt := fld_of c1271 rfl
            have c1276 : S1242 7 = .inl (g.2 0, 50, .inl f1198) := ((o1242 7 (by decide)).trans c1199)
            refine xcVv E hs hQ hml hl.1 0 (gX12_tells_3 l g ad hD S1242 hI r1242 (ib_wk b1242 (by decide) (by decide))) mX12_tells q1629 (by decide) c1271 rfl rfl ⟨(Nat.le_of_ble_eq_true rfl), (Nat.le_of_ble_eq_true rfl)⟩ ⟨(Nat.le_of_ble_eq_true rfl), (Nat.le_of_ble_eq_true rfl)⟩ (Nat.le_of_ble_eq_true rfl) rfl dX12_shore_100 (fun S1277 H locs hp1277 hQ _ => ?_)
            obtain ⟨hI, o1277, g1277_0, g1277_1, g1277_2, g1277_3, g1277_4, g1277_5, g1277_6, ef1277_7⟩ := hp1277
            have ef1278 : EFp (S1277 7) (S 7) 0 40 := ef_tt ef1277_7 (ef_tr ef1196 (o1242 7 (by decide)))
            obtain ⟨f1279, c1280, b1281⟩ := invM_7 hI
            obtain ⟨v1282, ee1283⟩ : ∃ z : Int32, f1279 43 = z := ⟨_, rfl⟩
            have b1284 : Bd v1282 (0) (12) := (by rw [← ee1283]; exact b1281.2.2.2.1 43 (by decide))
            have q1285 : elm (S1277 7) 43 = v1282.toInt := (elm_of c1280 43).trans (congrArg Int32.toInt (ee1283))
            have b1286 : Bd v1282 (1) (12) := ⟨by omega, (b1284).2⟩
            have q1287 : elm (S1242 7) 40 = v1201.toInt := (elm_of c1276 40).trans (congrArg Int32.toInt (ee1202))
            obtain ⟨v1288, ee1289⟩ : ∃ z : Int32, f1279 40 = z := ⟨_, rfl⟩
            have b1290 : Bd v1288 (0) (12) := (by rw [← ee1289]; exact b1281.1 40 (by decide))
            have q1291 : elm (S1277 7) 40 = v1288.toInt := (elm_of c1280 40).trans (congrArg Int32.toInt (ee1289))
            have b1292 : Bd v1288 (3) (12) := ⟨by omega, (b1290).2⟩
            have q1293 : elm (S1242 7) 41 = v1207.toInt := (elm_of c1276 41).trans (congrArg Int32.toInt (ee1208))
            obtain ⟨v1294, ee1295⟩ : ∃ z : Int32, f1279 41 = z := ⟨_, rfl⟩
            have b1296 : Bd v1294 (0) (12) := (by rw [← ee1295]; exact b1281.2.1 41 (by decide))
            have q1297 : elm (S1277 7) 41 = v1294.toInt := (elm_of c1280 41).trans (congrArg Int32.toInt (ee1295))
            have b1298 : Bd v1294 (1) (12) := ⟨by omega, (b1296).2⟩
            have q1299 : elm (S1242 7) 46 = v1218.toInt := (elm_of c1276 46).trans (congrArg Int32.toInt (ee1219))
            obtain ⟨v1300, ee1301⟩ : ∃ z : Int32, f1279 46 = z := ⟨_, rfl⟩
            have b1302 : Bd v1300 (0) (8) := (by rw [← ee1301]; exact b1281.2.2.2.2.1 46 (by decide))
            have q1303 : elm (S1277 7) 46 = v1300.toInt := (elm_of c1280 46).trans (congrArg Int32.toInt (ee1301))
            have b1304 : Bd v1300 (0) (0) := ⟨(b1302).1, by omega⟩
            have q1305 : elm (S1242 7) 47 = v1224.toInt := (elm_of c1276 47).trans (congrArg Int32.toInt (ee1225))
            obtain ⟨v1306, ee1307⟩ : ∃ z : Int32, f1279 47 = z := ⟨_, rfl⟩
            have b1308 : Bd v1306 (0) (6) := (by rw [← ee1307]; exact b1281.2.2.2.2.2.1 47 (by decide))
            have q1309 : elm (S1277 7) 47 = v1306.toInt := (elm_of c1280 47).trans (congrArg Int32.toInt (ee1307))
            have q1310 : elm (S1242 7) 48 = v1229.toInt := (elm_of c1276 48).trans (congrArg Int32.toInt (ee1230))
            obtain ⟨v1311, ee1312⟩ : ∃ z : Int32, f1279 48 = z := ⟨_, rfl⟩
            have b1313 : Bd v1311 (0) (3) := (by rw [← ee1312]; exact b1281.2.2.2.2.2.2.1 48 (by decide))
            have q1314 : elm (S1277 7) 48 = v1311.toInt := (elm_of c1280 48).trans (congrArg Int32.toInt (ee1312))
            have q1315 : elm (S1242 7) 49 = v1234.toInt := (elm_of c1276 49).trans (congrArg Int32.toInt (ee1235))
            obtain ⟨v1316, ee1317⟩ : ∃ z : Int32, f1279 49 = z := ⟨_, rfl⟩
            have b1318 : Bd v1316 (0) (40) := (by rw [← ee1317]; exact b1281.2.2.2.2.2.2.2 49 (by decide))
            have q1319 : elm (S1277 7) 49 = v1316.toInt := (elm_of c1280 49).trans (congrArg Int32.toInt (ee1317))
            have b1320 : Bd v1316 (0) (0) := ⟨(b1318).1, by omega⟩
            refine lv_aload_n hx hb dX12_shore_103 rfl (lv_at hl 0 rfl) ?_
            refine lv_iconst (v := 4) hx hb dX12_shore_104 (by decide) ?_
            refine lv_aload_n hx hb dX12_shore_105 rfl (lv_at hl 0 rfl) ?_
            refine lv_ldc2 (v := 298288) hx hb E.2.2.1 (E.2.2.2.1 _ q1683) dX12_shore_106 ?_
            refine lv_iconst (v := 0) hx hb dX12_shore_109 (by decide) ?_
            refine lv_bipush (v := 100) hx hb dX12_shore_110 (by decide) ?_
            have c1321 : S1277 0 = .inr (12, [.int v1243, .ref (ad 1), .ref (ad 2), .ref (ad 3), .ref (ad 4), .ref (ad 5), .int v1244, .int v1246, .int v1248, .int v1250, .int v1251, .long w1252, .int v1253, .int v1255, .int v1256, .int v1257, .ref (ad 6), .ref (ad 7), .ref (ad 8), .ref (ad 9), .ref (ad 10), .ref (ad 11), .ref (ad 12), .ref (ad 13), .ref (ad 14), .ref (ad 15), .int v1258, .int v1260, .ref (ad 16), .int v1262, .int v1264, .int v1266, .int v1268, .int v1269, .ref (ad 17), .ref (ad 18), .int v1270, .ref (ad 19)]) := ((o1277 0 (by decide)).trans c1271)
            have q1322 : fld (S1277 0) 6 = v1244.toInt := fld_of c1321 rfl
            have q1323 : fld (S1277 0) 7 = v1246.toInt := fld_of c1321 rfl
            refine xcVi E hs hQ hml hl.1 0 (gX12_numberw_3 l g ad hD S1277 hI 298288 0 100 (by decide : Bd 0 (0) (0)) (by decide : Bd 100 (100) (100)) (by omega)) mX12_number_ q1672 (by decide) c1321 rfl rfl ⟨(Nat.le_of_ble_eq_true rfl), (Nat.le_of_ble_eq_true rfl)⟩ ⟨(Nat.le_of_ble_eq_true rfl), (Nat.le_of_ble_eq_true rfl)⟩ (Nat.le_of_ble_eq_true rfl) rfl dX12_shore_112 (fun r1324 S1324 H locs hp1324 hQ _ => ?_)
            obtain ⟨hI, o1324, b1324, g1324_0, g1324_1, g1324_2⟩ := hp1324
            obtain ⟨v1325, v1326, v1328, v1330, v1332, v1333, w1334, v1335, v1337, v1338, v1339, v1340, v1342, v1344, v1346, v1348, v1350, v1351, v1352, c1353, b1327, b1329, b1331, b1336, b1341, b1343, b1345, b1347, b1349⟩ := invM_0 hI
            have c1353 : S1324 0 = .inr (12, [.int v1325, .ref (ad 1), .ref (ad 2), .ref (ad 3), .ref (ad 4), .ref (ad 5), .int v1326, .int v1328, .int v1330, .int v1332, .int v1333, .long w1334, .int v1335, .int v1337, .int v1338, .int v1339, .ref (ad 6), .ref (ad 7), .ref (ad 8), .ref (ad 9), .ref (ad 10), .ref (ad 11), .ref (ad 12), .ref (ad 13), .ref (ad 14), .ref (ad 15), .int v1340, .int v1342, .ref (ad 16), .int v1344, .int v1346, .int v1348, .int v1350, .int v1351, .ref (ad 17), .ref (ad 18), .int v1352, .ref (ad 19)]) := c1353
            have q1354 : fld (S1324 0) 6 = v1326.toInt := fld_of c1353 rfl
            have q1355 : fld (S1324 0) 7 = v1328.toInt := fld_of c1353 rfl
            have q1356 : fld (S1277 0) 8 = v1248.toInt := fld_of c1321 rfl
            have q1357 : fld (S1324 0) 8 = v1330.toInt := fld_of c1353 rfl
            have c1358 : S1324 7 = .inl (g.2 0, 50, .inl f1279) := ((o1324 7 (by decide)).trans c1280)
            refine xcVv E hs hQ hml hl.1 0 (gX12_tells_4 l g ad hD S1324 hI r1324) mX12_tells q1629 (by decide) c1353 rfl rfl ⟨(Nat.le_of_ble_eq_true rfl), (Nat.le_of_ble_eq_true rfl)⟩ ⟨(Nat.le_of_ble_eq_true rfl), (Nat.le_of_ble_eq_true rfl)⟩ (Nat.le_of_ble_eq_true rfl) rfl dX12_shore_115 (fun S1359 H locs hp1359 hQ _ => ?_)
            obtain ⟨hI, o1359, g1359_0, g1359_1, g1359_2, g1359_3, g1359_4, g1359_5, g1359_6, ef1359_7⟩ := hp1359
            have ef1360 : EFp (S1359 7) (S 7) 0 40 := ef_tt ef1359_7 (ef_tr ef1278 (o1324 7 (by decide)))
            have q1361 : elm (S1324 7) 40 = v1288.toInt := (elm_of c1358 40).trans (congrArg Int32.toInt (ee1289))
            obtain ⟨f1362, c1363, b1364⟩ := invM_7 hI
            obtain ⟨v1365, ee1366⟩ : ∃ z : Int32, f1362 40 = z := ⟨_, rfl⟩
            have b1367 : Bd v1365 (0) (12) := (by rw [← ee1366]; exact b1364.1 40 (by decide))
            have q1368 : elm (S1359 7) 40 = v1365.toInt := (elm_of c1363 40).trans (congrArg Int32.toInt (ee1366))
            have b1369 : Bd v1365 (3) (12) := ⟨by omega, (b1367).2⟩
            have q1370 : elm (S1324 7) 41 = v1294.toInt := (elm_of c1358 41).trans (congrArg Int32.toInt (ee1295))
            obtain ⟨v1371, ee1372⟩ : ∃ z : Int32, f1362 41 = z := ⟨_, rfl⟩
            have b1373 : Bd v1371 (0) (12) := (by rw [← ee1372]; exact b1364.2.1 41 (by decide))
            have q1374 : elm (S1359 7) 41 = v1371.toInt := (elm_of c1363 41).trans (congrArg Int32.toInt (ee1372))
            have b1375 : Bd v1371 (1) (12) := ⟨by omega, (b1373).2⟩
            have q1376 : elm (S1324 7) 43 = v1282.toInt := (elm_of c1358 43).trans (congrArg Int32.toInt (ee1283))
            obtain ⟨v1377, ee1378⟩ : ∃ z : Int32, f1362 43 = z := ⟨_, rfl⟩
            have b1379 : Bd v1377 (0) (12) := (by rw [← ee1378]; exact b1364.2.2.2.1 43 (by decide))
            have q1380 : elm (S1359 7) 43 = v1377.toInt := (elm_of c1363 43).trans (congrArg Int32.toInt (ee1378))
            have b1381 : Bd v1377 (1) (12) := ⟨by omega, (b1379).2⟩
            have q1382 : elm (S1324 7) 46 = v1300.toInt := (elm_of c1358 46).trans (congrArg Int32.toInt (ee1301))
            obtain ⟨v1383, ee1384⟩ : ∃ z : Int32, f1362 46 = z := ⟨_, rfl⟩
            have b1385 : Bd v1383 (0) (8) := (by rw [← ee1384]; exact b1364.2.2.2.2.1 46 (by decide))
            have q1386 : elm (S1359 7) 46 = v1383.toInt := (elm_of c1363 46).trans (congrArg Int32.toInt (ee1384))
            have b1387 : Bd v1383 (0) (0) := ⟨(b1385).1, by omega⟩
            have q1388 : elm (S1324 7) 47 = v1306.toInt := (elm_of c1358 47).trans (congrArg Int32.toInt (ee1307))
            obtain ⟨v1389, ee1390⟩ : ∃ z : Int32, f1362 47 = z := ⟨_, rfl⟩
            have b1391 : Bd v1389 (0) (6) := (by rw [← ee1390]; exact b1364.2.2.2.2.2.1 47 (by decide))
            have q1392 : elm (S1359 7) 47 = v1389.toInt := (elm_of c1363 47).trans (congrArg Int32.toInt (ee1390))
            have q1393 : elm (S1324 7) 48 = v1311.toInt := (elm_of c1358 48).trans (congrArg Int32.toInt (ee1312))
            obtain ⟨v1394, ee1395⟩ : ∃ z : Int32, f1362 48 = z := ⟨_, rfl⟩
            have b1396 : Bd v1394 (0) (3) := (by rw [← ee1395]; exact b1364.2.2.2.2.2.2.1 48 (by decide))
            have q1397 : elm (S1359 7) 48 = v1394.toInt := (elm_of c1363 48).trans (congrArg Int32.toInt (ee1395))
            have q1398 : elm (S1324 7) 49 = v1316.toInt := (elm_of c1358 49).trans (congrArg Int32.toInt (ee1317))
            obtain ⟨v1399, ee1400⟩ : ∃ z : Int32, f1362 49 = z := ⟨_, rfl⟩
            have b1401 : Bd v1399 (0) (40) := (by rw [← ee1400]; exact b1364.2.2.2.2.2.2.2 49 (by decide))
            have q1402 : elm (S1359 7) 49 = v1399.toInt := (elm_of c1363 49).trans (congrArg Int32.toInt (ee1400))
            have b1403 : Bd v1399 (0) (0) := ⟨(b1401).1, by omega⟩
            refine lv_goto (tgt := 125) hx hb dX12_shore_118 (by decide) ?_
            refine lv_aload_n hx hb dX12_shore_125 rfl (lv_at hl 0 rfl) ?_
            have c1404 : S1359 0 = .inr (12, [.int v1325, .ref (ad 1), .ref (ad 2), .ref (ad 3), .ref (ad 4), .ref (ad 5), .int v1326, .int v1328, .int v1330, .int v1332, .int v1333, .long w1334, .int v1335, .int v1337, .int v1338, .int v1339, .ref (ad 6), .ref (ad 7), .ref (ad 8), .ref (ad 9), .ref (ad 10), .ref (ad 11), .ref (ad 12), .ref (ad 13), .ref (ad 14), .ref (ad 15), .int v1340, .int v1342, .ref (ad 16), .int v1344, .int v1346, .int v1348, .int v1350, .int v1351, .ref (ad 17), .ref (ad 18), .int v1352, .ref (ad 19)]) := ((o1359 0 (by decide)).trans c1353)
            refine xcVi E hs hQ hml hl.1 0 (gX12_isGood_0 l g ad hD S1359 hI ) mX12_isGood q1650 (by decide) c1404 rfl rfl ⟨(Nat.le_of_ble_eq_true rfl), (Nat.le_of_ble_eq_true rfl)⟩ ⟨(Nat.le_of_ble_eq_true rfl), (Nat.le_of_ble_eq_true rfl)⟩ (Nat.le_of_ble_eq_true rfl) rfl dX12_shore_126 (fun r1405 S1405 H locs hp1405 hQ _ => ?_)
            obtain ⟨rfl, b1405, g1405_0, g1405_1⟩ := hp1405
            have q1406 : fld (S1359 0) 12 = v1335.toInt := fld_of c1404 rfl
            refine lv_if_eq (tgt := 136) hx hb dX12_shore_129 (by decide) (fun k1407 => ?_) (fun k1407 => ?_)
            · have h1408 := ib_eq k1407
              have b1409 : Bd r1405 (0) (0) := ⟨(b1405).1, ((rf_eq b1405 (by decide : Bd 0 (0) (0)) h1408).1).2⟩
              clear g1405_0
              have g1410 := g1405_1.resolve_left (by omega)
              clear g1405_1
              have b1411 : Bd v1335 (1) (3) := ⟨by omega, (b1336).2⟩
              refine lv_aload_n hx hb dX12_shore_136 rfl (lv_at hl 0 rfl) ?_
              refine xget E hQ 0 (by decide) c1404 rfl 16 (by decide) q1484 rfl dX12_shore_137 ?_
              refine lv_iconst (v := 4) hx hb dX12_shore_140 (by decide) ?_
              refine lv_dup2_11 hx hb dX12_shore_141 rfl rfl ?_
              have c1412 : S1359 6 = .inl (g.2 0, 5, .inl f784) := ((o1359 6 (by decide)).trans ((o1324 6 (by decide)).trans ((o1277 6 (by decide)).trans ((o1242 6 (by decide)).trans ((o1195 6 (by decide)).trans ((o1160 6 (by decide)).trans ((o1114 6 (by decide)).trans ((o1079 6 (by decide)).trans ((o1033 6 (by decide)).trans ((o991 6 (by decide)).trans ((o957 6 (by decide)).trans c785)))))))))))
              refine xiald E hQ 6 (by decide) c1412 (vp_in_lit 4 5 (by decide)) dX12_shore_142 ?_
              refine sb_at (P := fun z => W _ _ _ _ _ _ _ _ _ _ _ _ _ _ _ (F0 _ _ _ (.int z :: _))) (show f784 (4 : Int32).toNatClampNeg = ye13_6_4 from ee787) ?_
              refine lv_iconst (v := 1) hx hb dX12_shore_143 (by decide) ?_
              refine lv_iadd hx hb dX12_shore_144 ?_
              refine lv_topi (fun z1413 e1414 => ?_)
              have t1415 := ib_add e1414 b954 (by decide : Bd 1 (1) (1)) (by decide) (by decide)
              have b1416 : Bd z1413 (1) (1) := ib_addb t1415 b954 (by decide : Bd 1 (1) (1))
              have t1415 : z1413.toInt = ye13_6_4.toInt + 1 := fold_add t1415 rfl (by decide)
              refine xiast E hs hQ 6 (by decide) c1412 (vp_in_lit 4 5 (by decide)) dX12_shore_145 (fun H locs S1417 eS1417 hQ => ?_)
              have hI := invM_up_6 hI eS1417 ⟨_, rfl, upd_b b786 (ib_wk b1416 (by decide) (by decide))⟩
              have b1419 : ∀ j, Bd ((upd f784 (4 : Int32).toNatClampNeg z1413) j) (0) (40000) := upd_b b786 (ib_wk b1416 (by decide) (by decide))
              have c1418 : S1417 6 = .inl (g.2 0, 5, .inl (upd f784 (4 : Int32).toNatClampNeg z1413)) := up_at eS1417 rfl
              have ef1420 : EFp (S1417 6) (S 6) 0 4 := ef_up (ef_tr hE13_6 ((o1359 6 (by decide)).trans ((o1324 6 (by decide)).trans ((o1277 6 (by decide)).trans ((o1242 6 (by decide)).trans ((o1195 6 (by decide)).trans ((o1160 6 (by decide)).trans ((o1114 6 (by decide)).trans ((o1079 6 (by decide)).trans ((o1033 6 (by decide)).trans ((o991 6 (by decide)).trans (o957 6 (by decide))))))))))))) c1412 c1418 (by decide)
              refine lv_goto (tgt := 13) hx hb dX12_shore_146 (by decide) ?_
              have c1421 : S1417 7 = .inl (g.2 0, 50, .inl f1362) := (up_ne eS1417 (by decide) c1363)
              have c1422 : S1417 0 = .inr (12, [.int v1325, .ref (ad 1), .ref (ad 2), .ref (ad 3), .ref (ad 4), .ref (ad 5), .int v1326, .int v1328, .int v1330, .int v1332, .int v1333, .long w1334, .int v1335, .int v1337, .int v1338, .int v1339, .ref (ad 6), .ref (ad 7), .ref (ad 8), .ref (ad 9), .ref (ad 10), .ref (ad 11), .ref (ad 12), .ref (ad 13), .ref (ad 14), .ref (ad 15), .int v1340, .int v1342, .ref (ad 16), .int v1344, .int v1346, .int v1348, .int v1350, .int v1351, .ref (ad 17), .ref (ad 18), .int v1352, .ref (ad 19)]) := (up_ne eS1417 (by decide) c1404)
              have q1423 : elm (S1417 7) 46 = v1383.toInt := (elm_of c1421 46).trans (congrArg Int32.toInt (ee1384))
              exact ih13 _ _ _ _ v1325 v1326 v1328 v1330 v1332 v1333 w1334 v1335 v1337 v1338 v1339 v1340 v1342 v1344 v1346 v1348 v1350 v1351 v1352 v1365 v1371 v1377 v1383 v1389 v1394 v1399 z1413 b1327 b1329 b1331 (ib_wk b1411 (by decide) (by decide)) b1341 b1343 b1345 b1347 b1349 (ib_wk b1369 (by decide) (by decide)) (ib_wk b1375 (by decide) (by decide)) (ib_wk b1381 (by decide) (by decide)) (ib_wk b1387 (by decide) (by decide)) b1391 b1396 b1403 (ib_wk b1416 (by decide) (by decide)) (by omega) (by omega) (by omega) (by omega) (by omega) (by omega) (by omega) (by omega) (by omega) (by omega) (by omega) hI (up_o (o_trans (o_trans (o_trans (o_trans (o_trans (o_trans (o_trans (o_trans (o_trans (o_trans (o_trans hf13 o957 (by decide)) o991 (by decide)) o1033 (by decide)) o1079 (by decide)) o1114 (by decide)) o1160 (by decide)) o1195 (by decide)) o1242 (by decide)) o1277 (by decide)) o1324 (by decide)) o1359 (by decide)) eS1417 (by decide)) c1422 (ef_tr ef1360 (up_eq (j := 7) eS1417 (by decide))) ef1420 (ef_tr hE13_9 ((up_eq (j := 9) eS1417 (by decide)).trans ((o1359 9 (by decide)).trans ((o1324 9 (by decide)).trans ((o1277 9 (by decide)).trans ((o1242 9 (by decide)).trans ((o1195 9 (by decide)).trans ((o1160 9 (by decide)).trans ((o1114 9 (by decide)).trans ((o1079 9 (by decide)).trans ((o1033 9 (by decide)).trans ((o991 9 (by decide)).trans (o957 9 (by decide)))))))))))))) ((elm_of c1421 40).trans (congrArg Int32.toInt (ee1366))) ((elm_of c1421 41).trans (congrArg Int32.toInt (ee1372))) ((elm_of c1421 43).trans (congrArg Int32.toInt (ee1378))) ((elm_of c1421 46).trans (congrArg Int32.toInt (ee1384))) ((elm_of c1421 47).trans (congrArg Int32.toInt (ee1390))) ((elm_of c1421 48).trans (congrArg Int32.toInt (ee1395))) ((elm_of c1421 49).trans (congrArg Int32.toInt (ee1400))) ((elm_of c1418 4).trans (congrArg Int32.toInt ((upd_s)))) (ht_z (by show elm _ 46 ≤ 0; omega)) hQ (lv_sub hl [0] rfl)
            · have h1424 := ib_ne k1407
              have b1425 : Bd r1405 (1) (1) := rf_nlo b1405 (by decide : Bd 0 (0) (0)) h1424
              have g1426 := g1405_0.resolve_left (by omega)
              clear g1405_0
              have b1427 : Bd v1335 (0) (0) := ⟨(b1336).1, by omega⟩
              clear g1405_1
              refine lv_aload_n hx hb dX12_shore_132 rfl (lv_at hl 0 rfl) ?_
              have q1428 : fld (S1359 0) 6 = v1326.toInt := fld_of c1404 rfl
              have q1429 : fld (S1359 0) 7 = v1328.toInt := fld_of c1404 rfl
              refine xcVv E hs hQ hml hl.1 0 (gX12_ends_0 l g ad hD S1359 hI (by omega)) mX12_ends q1731 (by decide) c1404 rfl rfl ⟨(Nat.le_of_ble_eq_true rfl), (Nat.le_of_ble_eq_true rfl)⟩ ⟨(Nat.le_of_ble_eq_true rfl), (Nat.le_of_ble_eq_true rfl)⟩ (Nat.le_of_ble_eq_true rfl) rfl dX12_shore_133 (fun S1430 H locs hp1430 hQ _ => ?_)
              obtain ⟨hI, o1430, g1430_0, g1430_1, g1430_2, g1430_3⟩ := hp1430
              obtain ⟨v1431, v1432, v1434, v1436, v1438, v1439, w1440, v1441, v1443, v1444, v1445, v1446, v1448, v1450, v1452, v1454, v1456, v1457, v1458, c1459, b1433, b1435, b1437, b1442, b1447, b1449, b1451, b1453, b1455⟩ := invM_0 hI
              have c1459 : S1430 0 = .inr (12, [.int v1431, .ref (ad 1), .ref (ad 2), .ref (ad 3), .ref (ad 4), .ref (ad 5), .int v1432, .int v1434, .int v1436, .int v1438, .int v1439, .long w1440, .int v1441, .int v1443, .int v1444, .int v1445, .ref (ad 6), .ref (ad 7), .ref (ad 8), .ref (ad 9), .ref (ad 10), .ref (ad 11), .ref (ad 12), .ref (ad 13), .ref (ad 14), .ref (ad 15), .int v1446, .int v1448, .ref (ad 16), .int v1450, .int v1452, .int v1454, .int v1456, .int v1457, .ref (ad 17), .ref (ad 18), .int v1458, .ref (ad 19)]) := c1459
              have q1460 : fld (S1430 0) 6 = v1432.toInt := fld_of c1459 rfl
              have q1461 : fld (S1430 0) 7 = v1434.toInt := fld_of c1459 rfl
              have q1462 : fld (S1359 0) 8 = v1330.toInt := fld_of c1404 rfl
              have q1463 : fld (S1430 0) 8 = v1436.toInt := fld_of c1459 rfl
              have q1464 : fld (S1430 0) 12 = v1441.toInt := fld_of c1459 rfl
              refine lv_aload_n hx hb dX12_shore_136 rfl (lv_at hl 0 rfl) ?_
              refine xget E hQ 0 (by decide) c1459 rfl 16 (by decide) q1484 rfl dX12_shore_137 ?_
              refine lv_iconst (v := 4) hx hb dX12_shore_140 (by decide) ?_
              refine lv_dup2_11 hx hb dX12_shore_141 rfl rfl ?_
              have c1465 : S1430 6 = .inl (g.2 0, 5, .inl f784) := ((o1430 6 (by decide)).trans ((o1359 6 (by decide)).trans ((o1324 6 (by decide)).trans ((o1277 6 (by decide)).trans ((o1242 6 (by decide)).trans ((o1195 6 (by decide)).trans ((o1160 6 (by decide)).trans ((o1114 6 (by decide)).trans ((o1079 6 (by decide)).trans ((o1033 6 (by decide)).trans ((o991 6 (by decide)).trans ((o957 6 (by decide)).trans c785))))))))))))
              refine xiald E hQ 6 (by decide) c1465 (vp_in_lit 4 5 (by decide)) dX12_shore_142 ?_
              refine sb_at (P := fun z => W _ _ _ _ _ _ _ _ _ _ _ _ _ _ _ (F0 _ _ _ (.int z :: _))) (show f784 (4 : Int32).toNatClampNeg = ye13_6_4 from ee787) ?_
              refine lv_iconst (v := 1) hx hb dX12_shore_143 (by decide) ?_
              refine lv_iadd hx hb dX12_shore_144 ?_
              refine lv_topi (fun z1466 e1467 => ?_)
              have t1468 := ib_add e1467 b954 (by decide : Bd 1 (1) (1)) (by decide) (by decide)
              have b1469 : Bd z1466 (1) (1) := ib_addb t1468 b954 (by decide : Bd 1 (1) (1))
              have t1468 : z1466.toInt = ye13_6_4.toInt + 1 := fold_add t1468 rfl (by decide)
              refine xiast E hs hQ 6 (by decide) c1465 (vp_in_lit 4 5 (by decide)) dX12_shore_145 (fun H locs S1470 eS1470 hQ => ?_)
              have hI := invM_up_6 hI eS1470 ⟨_, rfl, upd_b b786 (ib_wk b1469 (by decide) (by decide))⟩
              have b1472 : ∀ j, Bd ((upd f784 (4 : Int32).toNatClampNeg z1466) j) (0) (40000) := upd_b b786 (ib_wk b1469 (by decide) (by decide))
              have c1471 : S1470 6 = .inl (g.2 0, 5, .inl (upd f784 (4 : Int32).toNatClampNeg z1466)) := up_at eS1470 rfl
              have ef1473 : EFp (S1470 6) (S 6) 0 4 := ef_up (ef_tr hE13_6 ((o1430 6 (by decide)).trans ((o1359 6 (by decide)).trans ((o1324 6 (by decide)).trans ((o1277 6 (by decide)).trans ((o1242 6 (by decide)).trans ((o1195 6 (by decide)).trans ((o1160 6 (by decide)).trans ((o1114 6 (by decide)).trans ((o1079 6 (by decide)).trans ((o1033 6 (by decide)).trans ((o991 6 (by decide)).trans (o957 6 (by decide)))))))))))))) c1465 c1471 (by decide)
              refine lv_goto (tgt := 13) hx hb dX12_shore_146 (by decide) ?_
              have c1474 : S1470 7 = .inl (g.2 0, 50, .inl f1362) := (up_ne eS1470 (by decide) ((o1430 7 (by decide)).trans c1363))
              have c1475 : S1470 0 = .inr (12, [.int v1431, .ref (ad 1), .ref (ad 2), .ref (ad 3), .ref (ad 4), .ref (ad 5), .int v1432, .int v1434, .int v1436, .int v1438, .int v1439, .long w1440, .int v1441, .int v1443, .int v1444, .int v1445, .ref (ad 6), .ref (ad 7), .ref (ad 8), .ref (ad 9), .ref (ad 10), .ref (ad 11), .ref (ad 12), .ref (ad 13), .ref (ad 14), .ref (ad 15), .int v1446, .int v1448, .ref (ad 16), .int v1450, .int v1452, .int v1454, .int v1456, .int v1457, .ref (ad 17), .ref (ad 18), .int v1458, .ref (ad 19)]) := (up_ne eS1470 (by decide) c1459)
              have q1476 : elm (S1470 7) 46 = v1383.toInt := (elm_of c1474 46).trans (congrArg Int32.toInt (ee1384))
              exact ih13 _ _ _ _ v1431 v1432 v1434 v1436 v1438 v1439 w1440 v1441 v1443 v1444 v1445 v1446 v1448 v1450 v1452 v1454 v1456 v1457 v1458 v1365 v1371 v1377 v1383 v1389 v1394 v1399 z1466 b1433 b1435 b1437 b1442 b1447 b1449 b1451 b1453 b1455 (ib_wk b1369 (by decide) (by decide)) (ib_wk b1375 (by decide) (by decide)) (ib_wk b1381 (by decide) (by decide)) (ib_wk b1387 (by decide) (by decide)) b1391 b1396 b1403 (ib_wk b1469 (by decide) (by decide)) (by omega) (by omega) (by omega) (by omega) (by omega) (by omega) (by omega) (by omega) (by omega) (by omega) (by omega) hI (up_o (o_trans (o_trans (o_trans (o_trans (o_trans (o_trans (o_trans (o_trans (o_trans (o_trans (o_trans (o_trans hf13 o957 (by decide)) o991 (by decide)) o1033 (by decide)) o1079 (by decide)) o1114 (by decide)) o1160 (by decide)) o1195 (by decide)) o1242 (by decide)) o1277 (by decide)) o1324 (by decide)) o1359 (by decide)) o1430 (by decide)) eS1470 (by decide)) c1475 (ef_tr ef1360 ((up_eq (j := 7) eS1470 (by decide)).trans (o1430 7 (by decide)))) ef1473 (ef_tr hE13_9 ((up_eq (j := 9) eS1470 (by decide)).trans ((o1430 9 (by decide)).trans ((o1359 9 (by decide)).trans ((o1324 9 (by decide)).trans ((o1277 9 (by decide)).trans ((o1242 9 (by decide)).trans ((o1195 9 (by decide)).trans ((o1160 9 (by decide)).trans ((o1114 9 (by decide)).trans ((o1079 9 (by decide)).trans ((o1033 9 (by decide)).trans ((o991 9 (by decide)).trans (o957 9 (by decide))))))))))))))) ((elm_of c1474 40).trans (congrArg Int32.toInt (ee1366))) ((elm_of c1474 41).trans (congrArg Int32.toInt (ee1372))) ((elm_of c1474 43).trans (congrArg Int32.toInt (ee1378))) ((elm_of c1474 46).trans (congrArg Int32.toInt (ee1384))) ((elm_of c1474 47).trans (congrArg Int32.toInt (ee1390))) ((elm_of c1474 48).trans (congrArg Int32.toInt (ee1395))) ((elm_of c1474 49).trans (congrArg Int32.toInt (ee1400))) ((elm_of c1471 4).trans (congrArg Int32.toInt ((upd_s)))) (ht_z (by show elm _ 46 ≤ 0; omega)) hQ (lv_sub hl [0] rfl)
  obtain ⟨n13, hn13⟩ := fu_n (4 * v208.toInt + (-4) * v210.toInt + v212.toInt + (-10000) * v217.toInt + 30000)
  have q1477 : elm (S206 7) 46 = v177.toInt := (elm_of c241 46).trans (congrArg Int32.toInt (ee178))
  exact loop13 n13 _ _ _ _ v207 v208 v210 v212 v214 v215 w216 v217 v219 v220 v221 v222 v224 v226 v228 v230 v232 v233 v234 v162 v167 v172 v177 v182 v187 v192 v200 b209 b211 b213 (ib_wk b240 (by decide) (by decide)) b223 b225 b227 b229 b231 (ib_wk b166 (by decide) (by decide)) (ib_wk b171 (by decide) (by decide)) (ib_wk b176 (by decide) (by decide)) (ib_wk b181 (by decide) (by decide)) (ib_wk b186 (by decide) (by decide)) (ib_wk b191 (by decide) (by decide)) b196 (ib_wk b204 (by decide) (by decide)) (by omega) (by omega) (by omega) (by omega) (by omega) (by omega) (by omega) (by omega) (by omega) (by omega) (by omega) hI o_refl c235 (ef_tr ef157 (o206 7 (by decide))) (ef_tr ef158 (o206 6 (by decide))) (ef_tr ef9_0 ((o206 9 (by decide)).trans ((o156 9 (by decide)).trans (up_eq (j := 9) eS154 (by decide))))) ((elm_of c241 40).trans (congrArg Int32.toInt (ee163))) ((elm_of c241 41).trans (congrArg Int32.toInt (ee168))) ((elm_of c241 43).trans (congrArg Int32.toInt (ee173))) ((elm_of c241 46).trans (congrArg Int32.toInt (ee178))) ((elm_of c241 47).trans (congrArg Int32.toInt (ee183))) ((elm_of c241 48).trans (congrArg Int32.toInt (ee188))) ((elm_of c241 49).trans (congrArg Int32.toInt (ee193))) ((elm_of c242 4).trans (congrArg Int32.toInt (ee201))) (ht_z (by show elm _ 46 ≤ 0; omega)) hQ (lv_sub hl [0] rfl)
