set_option maxHeartbeats 4000000 in
set_option maxRecDepth 100000 in
theorem gX12_copyShore_4_0 (l : Launch) (g : GG) (ad : Nat → Nat) (hD : Dj ad 20) (S : SS) (hI : InvM g ad S) (hAT0 : ATp (S 7) (S 12) 0) (hAT1 : ATp (S 7) (S 12) 1) (hAT2 : ATp (S 7) (S 12) 2) (hAT3 : ATp (S 7) (S 12) 3) (hAT4 : ATp (S 7) (S 12) 4) (hHT0 : HTp (S 7) (S 9) 0) (hHT1 : HTp (S 7) (S 9) 1) (hHT2 : HTp (S 7) (S 9) 2) (hHT3 : HTp (S 7) (S 9) 3) (hHT4 : HTp (S 7) (S 9) 4) : Met l yX12_copyShore (wG (.code yX12_copyShore cX12_copyShore 3 none)) (Rm 1) (XPre g ad 20 S [.ref (ad 0), .int 4, .int 0]) (va_Qv (fun S' => InvM g ad S' ∧ (∀ j, j ∉ ([6, 7, 8, 9, 10, 11, 12] : List Nat) → S' j = S j) ∧ (0 ≤ elm (S 7) 40 + (-1) * elm (S' 7) 0 ∧ 0 ≤ elm (S' 7) 0 + (-1) * elm (S 7) 40) ∧ (0 ≤ elm (S 7) 41 + (-1) * elm (S' 7) 1 ∧ 0 ≤ elm (S' 7) 1 + (-1) * elm (S 7) 41) ∧ (0 ≤ elm (S 7) 43 + (-1) * elm (S' 7) 3 ∧ 0 ≤ elm (S' 7) 3 + (-1) * elm (S 7) 43) ∧ (0 ≤ elm (S 7) 46 + (-1) * elm (S' 7) 6 ∧ 0 ≤ elm (S' 7) 6 + (-1) * elm (S 7) 46) ∧ (0 ≤ elm (S 7) 48 + (-1) * elm (S' 7) 8 ∧ 0 ≤ elm (S' 7) 8 + (-1) * elm (S 7) 48) ∧ (0 ≤ elm (S 7) 49 + (-1) * elm (S' 7) 9 ∧ 0 ≤ elm (S' 7) 9 + (-1) * elm (S 7) 49) ∧ (0 ≤ elm (S 7) 10 + (-1) * elm (S' 7) 10 ∧ 0 ≤ elm (S' 7) 10 + (-1) * elm (S 7) 10) ∧ (0 ≤ elm (S 7) 11 + (-1) * elm (S' 7) 11 ∧ 0 ≤ elm (S' 7) 11 + (-1) * elm (S 7) 11) ∧ (0 ≤ elm (S 7) 13 + (-1) * elm (S' 7) 13 ∧ 0 ≤ elm (S' 7) 13 + (-1) * elm (S 7) 13) ∧ (0 ≤ elm (S 7) 16 + (-1) * elm (S' 7) 16 ∧ 0 ≤ elm (S' 7) 16 + (-1) * elm (S 7) 16) ∧ (0 ≤ elm (S 7) 18 + (-1) * elm (S' 7) 18 ∧ 0 ≤ elm (S' 7) 18 + (-1) * elm (S 7) 18) ∧ (0 ≤ elm (S 7) 19 + (-1) * elm (S' 7) 19 ∧ 0 ≤ elm (S' 7) 19 + (-1) * elm (S 7) 19) ∧ (0 ≤ elm (S 7) 20 + (-1) * elm (S' 7) 20 ∧ 0 ≤ elm (S' 7) 20 + (-1) * elm (S 7) 20) ∧ (0 ≤ elm (S 7) 21 + (-1) * elm (S' 7) 21 ∧ 0 ≤ elm (S' 7) 21 + (-1) * elm (S 7) 21) ∧ (0 ≤ elm (S 7) 23 + (-1) * elm (S' 7) 23 ∧ 0 ≤ elm (S' 7) 23 + (-1) * elm (S 7) 23) ∧ (0 ≤ elm (S 7) 26 + (-1) * elm (S' 7) 26 ∧ 0 ≤ elm (S' 7) 26 + (-1) * elm (S 7) 26) ∧ (0 ≤ elm (S 7) 28 + (-1) * elm (S' 7) 28 ∧ 0 ≤ elm (S' 7) 28 + (-1) * elm (S 7) 28) ∧ (0 ≤ elm (S 7) 29 + (-1) * elm (S' 7) 29 ∧ 0 ≤ elm (S' 7) 29 + (-1) * elm (S 7) 29) ∧ (0 ≤ elm (S 7) 30 + (-1) * elm (S' 7) 30 ∧ 0 ≤ elm (S' 7) 30 + (-1) * elm (S 7) 30) ∧ (0 ≤ elm (S 7) 31 + (-1) * elm (S' 7) 31 ∧ 0 ≤ elm (S' 7) 31 + (-1) * elm (S 7) 31) ∧ (0 ≤ elm (S 7) 33 + (-1) * elm (S' 7) 33 ∧ 0 ≤ elm (S' 7) 33 + (-1) * elm (S 7) 33) ∧ (0 ≤ elm (S 7) 36 + (-1) * elm (S' 7) 36 ∧ 0 ≤ elm (S' 7) 36 + (-1) * elm (S 7) 36) ∧ (0 ≤ elm (S 7) 38 + (-1) * elm (S' 7) 38 ∧ 0 ≤ elm (S' 7) 38 + (-1) * elm (S 7) 38) ∧ (0 ≤ elm (S 7) 39 + (-1) * elm (S' 7) 39 ∧ 0 ≤ elm (S' 7) 39 + (-1) * elm (S 7) 39) ∧ (0 ≤ elm (S 6) 4 + (-1) * elm (S' 6) 0 ∧ 0 ≤ elm (S' 6) 0 + (-1) * elm (S 6) 4) ∧ (0 ≤ elm (S 6) 1 + (-1) * elm (S' 6) 1 ∧ 0 ≤ elm (S' 6) 1 + (-1) * elm (S 6) 1) ∧ (0 ≤ elm (S 6) 2 + (-1) * elm (S' 6) 2 ∧ 0 ≤ elm (S' 6) 2 + (-1) * elm (S 6) 2) ∧ (0 ≤ elm (S 6) 3 + (-1) * elm (S' 6) 3 ∧ 0 ≤ elm (S' 6) 3 + (-1) * elm (S 6) 3) ∧ (ATp (S' 7) (S' 12) 0) ∧ (ATp (S' 7) (S' 12) 1) ∧ (ATp (S' 7) (S' 12) 2) ∧ (ATp (S' 7) (S' 12) 3) ∧ (HTp (S' 7) (S' 9) 0) ∧ (HTp (S' 7) (S' 9) 1) ∧ (HTp (S' 7) (S' 9) 2) ∧ (HTp (S' 7) (S' 9) 3)) (QB g ad 20) (FA ad 20)) 0 0 (FA ad 20) := by
  refine xmet cX12_copyShore "EbbWreckModel" (by decide) rfl (Nat.le_of_ble_eq_true rfl) (fun p e s m below meth c E hr hlk hml hQ ls hl => ?_)
  have hx := E.1
  have hb := E.2.1
  have hs : Sp ad 20 (FA ad 20) := Sp.fa hD
  have hl : lv_has ls 3 [(0, .ref (ad 0)), (1, .int 4), (2, .int 0)] := hl
  obtain ⟨f1, c2, b3⟩ := invM_7 hI
  obtain ⟨v4, ee5⟩ : ∃ z : Int32, f1 40 = z := ⟨_, rfl⟩
  have b6 : Bd v4 (0) (12) := (by rw [← ee5]; exact b3.1 40 (by decide))
  obtain ⟨v7, ee8⟩ : ∃ z : Int32, f1 0 = z := ⟨_, rfl⟩
  have b9 : Bd v7 (0) (12) := (by rw [← ee8]; exact b3.1 0 (by decide))
  obtain ⟨v10, ee11⟩ : ∃ z : Int32, f1 41 = z := ⟨_, rfl⟩
  have b12 : Bd v10 (0) (12) := (by rw [← ee11]; exact b3.2.1 41 (by decide))
  obtain ⟨v13, ee14⟩ : ∃ z : Int32, f1 1 = z := ⟨_, rfl⟩
  have b15 : Bd v13 (0) (12) := (by rw [← ee14]; exact b3.2.1 1 (by decide))
  obtain ⟨v16, ee17⟩ : ∃ z : Int32, f1 43 = z := ⟨_, rfl⟩
  have b18 : Bd v16 (0) (12) := (by rw [← ee17]; exact b3.2.2.2.1 43 (by decide))
  obtain ⟨v19, ee20⟩ : ∃ z : Int32, f1 3 = z := ⟨_, rfl⟩
  have b21 : Bd v19 (0) (12) := (by rw [← ee20]; exact b3.2.2.2.1 3 (by decide))
  obtain ⟨v22, ee23⟩ : ∃ z : Int32, f1 46 = z := ⟨_, rfl⟩
  have b24 : Bd v22 (0) (8) := (by rw [← ee23]; exact b3.2.2.2.2.1 46 (by decide))
  obtain ⟨v25, ee26⟩ : ∃ z : Int32, f1 6 = z := ⟨_, rfl⟩
  have b27 : Bd v25 (0) (8) := (by rw [← ee26]; exact b3.2.2.2.2.1 6 (by decide))
  obtain ⟨v28, ee29⟩ : ∃ z : Int32, f1 48 = z := ⟨_, rfl⟩
  have b30 : Bd v28 (0) (3) := (by rw [← ee29]; exact b3.2.2.2.2.2.2.1 48 (by decide))
  obtain ⟨v31, ee32⟩ : ∃ z : Int32, f1 8 = z := ⟨_, rfl⟩
  have b33 : Bd v31 (0) (3) := (by rw [← ee32]; exact b3.2.2.2.2.2.2.1 8 (by decide))
  obtain ⟨v34, ee35⟩ : ∃ z : Int32, f1 49 = z := ⟨_, rfl⟩
  have b36 : Bd v34 (0) (40) := (by rw [← ee35]; exact b3.2.2.2.2.2.2.2 49 (by decide))
  obtain ⟨v37, ee38⟩ : ∃ z : Int32, f1 9 = z := ⟨_, rfl⟩
  have b39 : Bd v37 (0) (40) := (by rw [← ee38]; exact b3.2.2.2.2.2.2.2 9 (by decide))
  obtain ⟨v40, ee41⟩ : ∃ z : Int32, f1 10 = z := ⟨_, rfl⟩
  have b42 : Bd v40 (0) (12) := (by rw [← ee41]; exact b3.1 10 (by decide))
  obtain ⟨v43, ee44⟩ : ∃ z : Int32, f1 11 = z := ⟨_, rfl⟩
  have b45 : Bd v43 (0) (12) := (by rw [← ee44]; exact b3.2.1 11 (by decide))
  obtain ⟨v46, ee47⟩ : ∃ z : Int32, f1 13 = z := ⟨_, rfl⟩
  have b48 : Bd v46 (0) (12) := (by rw [← ee47]; exact b3.2.2.2.1 13 (by decide))
  obtain ⟨v49, ee50⟩ : ∃ z : Int32, f1 16 = z := ⟨_, rfl⟩
  have b51 : Bd v49 (0) (8) := (by rw [← ee50]; exact b3.2.2.2.2.1 16 (by decide))
  obtain ⟨v52, ee53⟩ : ∃ z : Int32, f1 18 = z := ⟨_, rfl⟩
  have b54 : Bd v52 (0) (3) := (by rw [← ee53]; exact b3.2.2.2.2.2.2.1 18 (by decide))
  obtain ⟨v55, ee56⟩ : ∃ z : Int32, f1 19 = z := ⟨_, rfl⟩
  have b57 : Bd v55 (0) (40) := (by rw [← ee56]; exact b3.2.2.2.2.2.2.2 19 (by decide))
  obtain ⟨v58, ee59⟩ : ∃ z : Int32, f1 20 = z := ⟨_, rfl⟩
  have b60 : Bd v58 (0) (12) := (by rw [← ee59]; exact b3.1 20 (by decide))
  obtain ⟨v61, ee62⟩ : ∃ z : Int32, f1 21 = z := ⟨_, rfl⟩
  have b63 : Bd v61 (0) (12) := (by rw [← ee62]; exact b3.2.1 21 (by decide))
  obtain ⟨v64, ee65⟩ : ∃ z : Int32, f1 23 = z := ⟨_, rfl⟩
  have b66 : Bd v64 (0) (12) := (by rw [← ee65]; exact b3.2.2.2.1 23 (by decide))
  obtain ⟨v67, ee68⟩ : ∃ z : Int32, f1 26 = z := ⟨_, rfl⟩
  have b69 : Bd v67 (0) (8) := (by rw [← ee68]; exact b3.2.2.2.2.1 26 (by decide))
  obtain ⟨v70, ee71⟩ : ∃ z : Int32, f1 28 = z := ⟨_, rfl⟩
  have b72 : Bd v70 (0) (3) := (by rw [← ee71]; exact b3.2.2.2.2.2.2.1 28 (by decide))
  obtain ⟨v73, ee74⟩ : ∃ z : Int32, f1 29 = z := ⟨_, rfl⟩
  have b75 : Bd v73 (0) (40) := (by rw [← ee74]; exact b3.2.2.2.2.2.2.2 29 (by decide))
  obtain ⟨v76, ee77⟩ : ∃ z : Int32, f1 30 = z := ⟨_, rfl⟩
  have b78 : Bd v76 (0) (12) := (by rw [← ee77]; exact b3.1 30 (by decide))
  obtain ⟨v79, ee80⟩ : ∃ z : Int32, f1 31 = z := ⟨_, rfl⟩
  have b81 : Bd v79 (0) (12) := (by rw [← ee80]; exact b3.2.1 31 (by decide))
  obtain ⟨v82, ee83⟩ : ∃ z : Int32, f1 33 = z := ⟨_, rfl⟩
  have b84 : Bd v82 (0) (12) := (by rw [← ee83]; exact b3.2.2.2.1 33 (by decide))
  obtain ⟨v85, ee86⟩ : ∃ z : Int32, f1 36 = z := ⟨_, rfl⟩
  have b87 : Bd v85 (0) (8) := (by rw [← ee86]; exact b3.2.2.2.2.1 36 (by decide))
  obtain ⟨v88, ee89⟩ : ∃ z : Int32, f1 38 = z := ⟨_, rfl⟩
  have b90 : Bd v88 (0) (3) := (by rw [← ee89]; exact b3.2.2.2.2.2.2.1 38 (by decide))
  obtain ⟨v91, ee92⟩ : ∃ z : Int32, f1 39 = z := ⟨_, rfl⟩
  have b93 : Bd v91 (0) (40) := (by rw [← ee92]; exact b3.2.2.2.2.2.2.2 39 (by decide))
  obtain ⟨f94, c95, b96⟩ := invM_6 hI
  obtain ⟨v97, ee98⟩ : ∃ z : Int32, f94 4 = z := ⟨_, rfl⟩
  have b99 : Bd v97 (0) (40000) := (by rw [← ee98]; exact b96 4)
  obtain ⟨v100, ee101⟩ : ∃ z : Int32, f94 0 = z := ⟨_, rfl⟩
  have b102 : Bd v100 (0) (40000) := (by rw [← ee101]; exact b96 0)
  obtain ⟨v103, ee104⟩ : ∃ z : Int32, f94 1 = z := ⟨_, rfl⟩
  have b105 : Bd v103 (0) (40000) := (by rw [← ee104]; exact b96 1)
  obtain ⟨v106, ee107⟩ : ∃ z : Int32, f94 2 = z := ⟨_, rfl⟩
  have b108 : Bd v106 (0) (40000) := (by rw [← ee107]; exact b96 2)
  obtain ⟨v109, ee110⟩ : ∃ z : Int32, f94 3 = z := ⟨_, rfl⟩
  have b111 : Bd v109 (0) (40000) := (by rw [← ee110]; exact b96 3)
  obtain ⟨f112, c113, b114⟩ := invM_12 hI
  obtain ⟨f115, c116, b117⟩ := invM_9 hI
  refine lv_aload_n hx hb dX12_copyShore_0 rfl (lv_at hl 0 rfl) ?_
  obtain ⟨v118, v119, v121, v123, v125, v126, w127, v128, v130, v131, v132, v133, v135, v137, v139, v141, v143, v144, v145, c146, b120, b122, b124, b129, b134, b136, b138, b140, b142⟩ := invM_0 hI
  have c146 : S 0 = .inr (12, [.int v118, .ref (ad 1), .ref (ad 2), .ref (ad 3), .ref (ad 4), .ref (ad 5), .int v119, .int v121, .int v123, .int v125, .int v126, .long w127, .int v128, .int v130, .int v131, .int v132, .ref (ad 6), .ref (ad 7), .ref (ad 8), .ref (ad 9), .ref (ad 10), .ref (ad 11), .ref (ad 12), .ref (ad 13), .ref (ad 14), .ref (ad 15), .int v133, .int v135, .ref (ad 16), .int v137, .int v139, .int v141, .int v143, .int v144, .ref (ad 17), .ref (ad 18), .int v145, .ref (ad 19)]) := c146
  refine xget E hQ 0 (by decide) c146 rfl 16 (by decide) q1484 rfl dX12_copyShore_1 ?_
  refine lv_iconst (v := 1) hx hb dX12_copyShore_4 (by decide) ?_
  refine lv_iload_n hx hb dX12_copyShore_5 rfl (lv_at hl 1 rfl) ?_
  refine lv_iload_n hx hb dX12_copyShore_6 rfl (lv_at hl 2 rfl) ?_
  refine xcSv E hs hQ hml hl.1 (uCopyRow l g ad 20 hD S 6 (by decide) 5 (by decide) f94 1 4 0 (by decide) (by decide) (by decide) c95) mX12_copyRow q1743 rfl ⟨(Nat.le_of_ble_eq_true rfl), (Nat.le_of_ble_eq_true rfl)⟩ ⟨(Nat.le_of_ble_eq_true rfl), (Nat.le_of_ble_eq_true rfl)⟩ (Nat.le_of_ble_eq_true rfl) rfl dX12_copyShore_7 (fun S147 H locs eS147 hQ => ?_)
  have hI := invM_up_6 hI eS147 ⟨_, rfl, cp_b b96⟩
  have b149 : ∀ j, Bd ((cpF f94 1 4 0 1) j) (0) (40000) := cp_b b96
  have c148 : S147 6 = .inl (g.2 0, 5, .inl (cpF f94 1 4 0 1)) := up_at eS147 rfl
  refine lv_aload_n hx hb dX12_copyShore_10 rfl (lv_at hl 0 rfl) ?_
  have c150 : S147 0 = .inr (12, [.int v118, .ref (ad 1), .ref (ad 2), .ref (ad 3), .ref (ad 4), .ref (ad 5), .int v119, .int v121, .int v123, .int v125, .int v126, .long w127, .int v128, .int v130, .int v131, .int v132, .ref (ad 6), .ref (ad 7), .ref (ad 8), .ref (ad 9), .ref (ad 10), .ref (ad 11), .ref (ad 12), .ref (ad 13), .ref (ad 14), .ref (ad 15), .int v133, .int v135, .ref (ad 16), .int v137, .int v139, .int v141, .int v143, .int v144, .ref (ad 17), .ref (ad 18), .int v145, .ref (ad 19)]) := (up_ne eS147 (by decide) c146)
  refine xget E hQ 0 (by decide) c150 rfl 17 (by decide) q1485 rfl dX12_copyShore_11 ?_
  refine lv_bipush (v := 10) hx hb dX12_copyShore_14 (by decide) ?_
  refine lv_iload_n hx hb dX12_copyShore_16 rfl (lv_at hl 1 rfl) ?_
  refine lv_iload_n hx hb dX12_copyShore_17 rfl (lv_at hl 2 rfl) ?_
  have c151 : S147 7 = .inl (g.2 0, 50, .inl f1) := (up_ne eS147 (by decide) c2)
  refine xcSv E hs hQ hml hl.1 (uCopyRow l g ad 20 hD S147 7 (by decide) 50 (by decide) f1 10 4 0 (by decide) (by decide) (by decide) c151) mX12_copyRow q1743 rfl ⟨(Nat.le_of_ble_eq_true rfl), (Nat.le_of_ble_eq_true rfl)⟩ ⟨(Nat.le_of_ble_eq_true rfl), (Nat.le_of_ble_eq_true rfl)⟩ (Nat.le_of_ble_eq_true rfl) rfl dX12_copyShore_18 (fun S152 H locs eS152 hQ => ?_)
  have hI := invM_up_7 hI eS152 ⟨_, rfl, ⟨cp_m (q := 1) b3.1 (by decide), cp_m (q := 1) b3.2.1 (by decide), cp_m (q := 1) b3.2.2.1 (by decide), cp_m (q := 1) b3.2.2.2.1 (by decide), cp_m (q := 1) b3.2.2.2.2.1 (by decide), cp_m (q := 1) b3.2.2.2.2.2.1 (by decide), cp_m (q := 1) b3.2.2.2.2.2.2.1 (by decide), cp_m (q := 1) b3.2.2.2.2.2.2.2 (by decide)⟩⟩
  have b154 : (∀ j, j % 10 = 0 → Bd ((cpF f1 10 4 0 10) j) (0) (12)) ∧ (∀ j, j % 10 = 1 → Bd ((cpF f1 10 4 0 10) j) (0) (12)) ∧ (∀ j, j % 10 = 2 → Bd ((cpF f1 10 4 0 10) j) (0) (6)) ∧ (∀ j, j % 10 = 3 → Bd ((cpF f1 10 4 0 10) j) (0) (12)) ∧ (∀ j, j % 10 = 6 → Bd ((cpF f1 10 4 0 10) j) (0) (8)) ∧ (∀ j, j % 10 = 7 → Bd ((cpF f1 10 4 0 10) j) (0) (6)) ∧ (∀ j, j % 10 = 8 → Bd ((cpF f1 10 4 0 10) j) (0) (3)) ∧ (∀ j, j % 10 = 9 → Bd ((cpF f1 10 4 0 10) j) (0) (40)) := ⟨cp_m (q := 1) b3.1 (by decide), cp_m (q := 1) b3.2.1 (by decide), cp_m (q := 1) b3.2.2.1 (by decide), cp_m (q := 1) b3.2.2.2.1 (by decide), cp_m (q := 1) b3.2.2.2.2.1 (by decide), cp_m (q := 1) b3.2.2.2.2.2.1 (by decide), cp_m (q := 1) b3.2.2.2.2.2.2.1 (by decide), cp_m (q := 1) b3.2.2.2.2.2.2.2 (by decide)⟩
  have c153 : S152 7 = .inl (g.2 0, 50, .inl (cpF f1 10 4 0 10)) := up_at eS152 rfl
  refine lv_aload_n hx hb dX12_copyShore_21 rfl (lv_at hl 0 rfl) ?_
  have c155 : S152 0 = .inr (12, [.int v118, .ref (ad 1), .ref (ad 2), .ref (ad 3), .ref (ad 4), .ref (ad 5), .int v119, .int v121, .int v123, .int v125, .int v126, .long w127, .int v128, .int v130, .int v131, .int v132, .ref (ad 6), .ref (ad 7), .ref (ad 8), .ref (ad 9), .ref (ad 10), .ref (ad 11), .ref (ad 12), .ref (ad 13), .ref (ad 14), .ref (ad 15), .int v133, .int v135, .ref (ad 16), .int v137, .int v139, .int v141, .int v143, .int v144, .ref (ad 17), .ref (ad 18), .int v145, .ref (ad 19)]) := (up_ne eS152 (by decide) c150)
  refine xget E hQ 0 (by decide) c155 rfl 18 (by decide) q1486 rfl dX12_copyShore_22 ?_
  refine lv_bipush (v := 24) hx hb dX12_copyShore_25 (by decide) ?_
  refine lv_iload_n hx hb dX12_copyShore_27 rfl (lv_at hl 1 rfl) ?_
  refine lv_iload_n hx hb dX12_copyShore_28 rfl (lv_at hl 2 rfl) ?_
  obtain ⟨f156, c157⟩ := invM_8 hI
  refine xcSv E hs hQ hml hl.1 (uCopyRow l g ad 20 hD S152 8 (by decide) 120 (by decide) f156 24 4 0 (by decide) (by decide) (by decide) c157) mX12_copyRow q1743 rfl ⟨(Nat.le_of_ble_eq_true rfl), (Nat.le_of_ble_eq_true rfl)⟩ ⟨(Nat.le_of_ble_eq_true rfl), (Nat.le_of_ble_eq_true rfl)⟩ (Nat.le_of_ble_eq_true rfl) rfl dX12_copyShore_29 (fun S159 H locs eS159 hQ => ?_)
  have hI := invM_up_8 hI eS159 ⟨_, rfl⟩
  have c160 : S159 8 = .inl (g.2 0, 120, .inl (cpF f156 24 4 0 24)) := up_at eS159 rfl
  refine lv_aload_n hx hb dX12_copyShore_32 rfl (lv_at hl 0 rfl) ?_
  have c161 : S159 0 = .inr (12, [.int v118, .ref (ad 1), .ref (ad 2), .ref (ad 3), .ref (ad 4), .ref (ad 5), .int v119, .int v121, .int v123, .int v125, .int v126, .long w127, .int v128, .int v130, .int v131, .int v132, .ref (ad 6), .ref (ad 7), .ref (ad 8), .ref (ad 9), .ref (ad 10), .ref (ad 11), .ref (ad 12), .ref (ad 13), .ref (ad 14), .ref (ad 15), .int v133, .int v135, .ref (ad 16), .int v137, .int v139, .int v141, .int v143, .int v144, .ref (ad 17), .ref (ad 18), .int v145, .ref (ad 19)]) := (up_ne eS159 (by decide) c155)
  refine xget E hQ 0 (by decide) c161 rfl 19 (by decide) q1487 rfl dX12_copyShore_33 ?_
  refine lv_bipush (v := 24) hx hb dX12_copyShore_36 (by decide) ?_
  refine lv_iload_n hx hb dX12_copyShore_38 rfl (lv_at hl 1 rfl) ?_
  refine lv_iload_n hx hb dX12_copyShore_39 rfl (lv_at hl 2 rfl) ?_
  have c162 : S159 9 = .inl (g.2 0, 120, .inl f115) := (up_ne eS159 (by decide) (up_ne eS152 (by decide) (up_ne eS147 (by decide) c116)))
  refine xcSv E hs hQ hml hl.1 (uCopyRow l g ad 20 hD S159 9 (by decide) 120 (by decide) f115 24 4 0 (by decide) (by decide) (by decide) c162) mX12_copyRow q1743 rfl ⟨(Nat.le_of_ble_eq_true rfl), (Nat.le_of_ble_eq_true rfl)⟩ ⟨(Nat.le_of_ble_eq_true rfl), (Nat.le_of_ble_eq_true rfl)⟩ (Nat.le_of_ble_eq_true rfl) rfl dX12_copyShore_40 (fun S163 H locs eS163 hQ => ?_)
  have hI := invM_up_9 hI eS163 ⟨_, rfl, ⟨cp_m (q := 8) b117.1 (by decide), cp_m (q := 8) b117.2 (by decide)⟩⟩
  have b165 : (∀ j, j % 3 = 1 → Bd ((cpF f115 24 4 0 24) j) (0) (11)) ∧ (∀ j, j % 3 = 2 → Bd ((cpF f115 24 4 0 24) j) (0) (99)) := ⟨cp_m (q := 8) b117.1 (by decide), cp_m (q := 8) b117.2 (by decide)⟩
  have c164 : S163 9 = .inl (g.2 0, 120, .inl (cpF f115 24 4 0 24)) := up_at eS163 rfl
  refine lv_aload_n hx hb dX12_copyShore_43 rfl (lv_at hl 0 rfl) ?_
  have c166 : S163 0 = .inr (12, [.int v118, .ref (ad 1), .ref (ad 2), .ref (ad 3), .ref (ad 4), .ref (ad 5), .int v119, .int v121, .int v123, .int v125, .int v126, .long w127, .int v128, .int v130, .int v131, .int v132, .ref (ad 6), .ref (ad 7), .ref (ad 8), .ref (ad 9), .ref (ad 10), .ref (ad 11), .ref (ad 12), .ref (ad 13), .ref (ad 14), .ref (ad 15), .int v133, .int v135, .ref (ad 16), .int v137, .int v139, .int v141, .int v143, .int v144, .ref (ad 17), .ref (ad 18), .int v145, .ref (ad 19)]) := (up_ne eS163 (by decide) c161)
  refine xget E hQ 0 (by decide) c166 rfl 20 (by decide) q1488 rfl dX12_copyShore_44 ?_
  refine lv_bipush (v := 24) hx hb dX12_copyShore_47 (by decide) ?_
  refine lv_iload_n hx hb dX12_copyShore_49 rfl (lv_at hl 1 rfl) ?_
  refine lv_iload_n hx hb dX12_copyShore_50 rfl (lv_at hl 2 rfl) ?_
  obtain ⟨f167, c168⟩ := invM_10 hI
  refine xcSv E hs hQ hml hl.1 (uCopyRow l g ad 20 hD S163 10 (by decide) 120 (by decide) f167 24 4 0 (by decide) (by decide) (by decide) c168) mX12_copyRow q1743 rfl ⟨(Nat.le_of_ble_eq_true rfl), (Nat.le_of_ble_eq_true rfl)⟩ ⟨(Nat.le_of_ble_eq_true rfl), (Nat.le_of_ble_eq_true rfl)⟩ (Nat.le_of_ble_eq_true rfl) rfl dX12_copyShore_51 (fun S170 H locs eS170 hQ => ?_)
  have hI := invM_up_10 hI eS170 ⟨_, rfl⟩
  have c171 : S170 10 = .inl (g.2 0, 120, .inl (cpF f167 24 4 0 24)) := up_at eS170 rfl
  refine lv_aload_n hx hb dX12_copyShore_54 rfl (lv_at hl 0 rfl) ?_
  have c172 : S170 0 = .inr (12, [.int v118, .ref (ad 1), .ref (ad 2), .ref (ad 3), .ref (ad 4), .ref (ad 5), .int v119, .int v121, .int v123, .int v125, .int v126, .long w127, .int v128, .int v130, .int v131, .int v132, .ref (ad 6), .ref (ad 7), .ref (ad 8), .ref (ad 9), .ref (ad 10), .ref (ad 11), .ref (ad 12), .ref (ad 13), .ref (ad 14), .ref (ad 15), .int v133, .int v135, .ref (ad 16), .int v137, .int v139, .int v141, .int v143, .int v144, .ref (ad 17), .ref (ad 18), .int v145, .ref (ad 19)]) := (up_ne eS170 (by decide) c166)
  refine xget E hQ 0 (by decide) c172 rfl 21 (by decide) q1489 rfl dX12_copyShore_55 ?_
  refine lv_iconst (v := 3) hx hb dX12_copyShore_58 (by decide) ?_
  refine lv_iload_n hx hb dX12_copyShore_59 rfl (lv_at hl 1 rfl) ?_
  refine lv_iload_n hx hb dX12_copyShore_60 rfl (lv_at hl 2 rfl) ?_
  obtain ⟨f173, c174, b175⟩ := invM_11 hI
  refine xcSv E hs hQ hml hl.1 (uCopyRow l g ad 20 hD S170 11 (by decide) 15 (by decide) f173 3 4 0 (by decide) (by decide) (by decide) c174) mX12_copyRow q1743 rfl ⟨(Nat.le_of_ble_eq_true rfl), (Nat.le_of_ble_eq_true rfl)⟩ ⟨(Nat.le_of_ble_eq_true rfl), (Nat.le_of_ble_eq_true rfl)⟩ (Nat.le_of_ble_eq_true rfl) rfl dX12_copyShore_61 (fun S176 H locs eS176 hQ => ?_)
  have hI := invM_up_11 hI eS176 ⟨_, rfl, cp_b b175⟩
  have b178 : ∀ j, Bd ((cpF f173 3 4 0 3) j) (0) (11) := cp_b b175
  have c177 : S176 11 = .inl (g.2 0, 15, .inl (cpF f173 3 4 0 3)) := up_at eS176 rfl
  refine lv_aload_n hx hb dX12_copyShore_64 rfl (lv_at hl 0 rfl) ?_
  have c179 : S176 0 = .inr (12, [.int v118, .ref (ad 1), .ref (ad 2), .ref (ad 3), .ref (ad 4), .ref (ad 5), .int v119, .int v121, .int v123, .int v125, .int v126, .long w127, .int v128, .int v130, .int v131, .int v132, .ref (ad 6), .ref (ad 7), .ref (ad 8), .ref (ad 9), .ref (ad 10), .ref (ad 11), .ref (ad 12), .ref (ad 13), .ref (ad 14), .ref (ad 15), .int v133, .int v135, .ref (ad 16), .int v137, .int v139, .int v141, .int v143, .int v144, .ref (ad 17), .ref (ad 18), .int v145, .ref (ad 19)]) := (up_ne eS176 (by decide) c172)
  refine xget E hQ 0 (by decide) c179 rfl 22 (by decide) q1490 rfl dX12_copyShore_65 ?_
  refine lv_sipush (v := 160) hx hb dX12_copyShore_68 (by decide) ?_
  refine lv_iload_n hx hb dX12_copyShore_71 rfl (lv_at hl 1 rfl) ?_
  refine lv_iload_n hx hb dX12_copyShore_72 rfl (lv_at hl 2 rfl) ?_
  have c180 : S176 12 = .inl (g.2 0, 800, .inl f112) := (up_ne eS176 (by decide) (up_ne eS170 (by decide) (up_ne eS163 (by decide) (up_ne eS159 (by decide) (up_ne eS152 (by decide) (up_ne eS147 (by decide) c113))))))
  refine xcSv E hs hQ hml hl.1 (uCopyRow l g ad 20 hD S176 12 (by decide) 800 (by decide) f112 160 4 0 (by decide) (by decide) (by decide) c180) mX12_copyRow q1743 rfl ⟨(Nat.le_of_ble_eq_true rfl), (Nat.le_of_ble_eq_true rfl)⟩ ⟨(Nat.le_of_ble_eq_true rfl), (Nat.le_of_ble_eq_true rfl)⟩ (Nat.le_of_ble_eq_true rfl) rfl dX12_copyShore_73 (fun S181 H locs eS181 hQ => ?_)
  have hI := invM_up_12 hI eS181 ⟨_, rfl, ⟨cp_m (q := 40) b114.1 (by decide), cp_m (q := 40) b114.2 (by decide)⟩⟩
  have b183 : (∀ j, j % 4 = 1 → Bd ((cpF f112 160 4 0 160) j) (0) (7)) ∧ (∀ j, j % 4 = 2 → Bd ((cpF f112 160 4 0 160) j) (0) (400)) := ⟨cp_m (q := 40) b114.1 (by decide), cp_m (q := 40) b114.2 (by decide)⟩
  have c182 : S181 12 = .inl (g.2 0, 800, .inl (cpF f112 160 4 0 160)) := up_at eS181 rfl
  have q184 : elm (S 7) 40 = v4.toInt := (elm_of c2 40).trans (congrArg Int32.toInt (ee5))
  have c185 : S181 7 = .inl (g.2 0, 50, .inl (cpF f1 10 4 0 10)) := (up_ne eS181 (by decide) (up_ne eS176 (by decide) (up_ne eS170 (by decide) (up_ne eS163 (by decide) (up_ne eS159 (by decide) c153)))))
  have q186 : elm (S181 7) 0 = v4.toInt := (elm_of c185 0).trans (congrArg Int32.toInt (((show cpF f1 10 4 0 10 0 = f1 40 from rfl).trans (ee5))))
  have q187 : elm (S 7) 41 = v10.toInt := (elm_of c2 41).trans (congrArg Int32.toInt (ee11))
  have q188 : elm (S181 7) 1 = v10.toInt := (elm_of c185 1).trans (congrArg Int32.toInt (((show cpF f1 10 4 0 10 1 = f1 41 from rfl).trans (ee11))))
  have q189 : elm (S 7) 43 = v16.toInt := (elm_of c2 43).trans (congrArg Int32.toInt (ee17))
  have q190 : elm (S181 7) 3 = v16.toInt := (elm_of c185 3).trans (congrArg Int32.toInt (((show cpF f1 10 4 0 10 3 = f1 43 from rfl).trans (ee17))))
  have q191 : elm (S 7) 46 = v22.toInt := (elm_of c2 46).trans (congrArg Int32.toInt (ee23))
  have q192 : elm (S181 7) 6 = v22.toInt := (elm_of c185 6).trans (congrArg Int32.toInt (((show cpF f1 10 4 0 10 6 = f1 46 from rfl).trans (ee23))))
  have q193 : elm (S 7) 48 = v28.toInt := (elm_of c2 48).trans (congrArg Int32.toInt (ee29))
  have q194 : elm (S181 7) 8 = v28.toInt := (elm_of c185 8).trans (congrArg Int32.toInt (((show cpF f1 10 4 0 10 8 = f1 48 from rfl).trans (ee29))))
  have q195 : elm (S 7) 49 = v34.toInt := (elm_of c2 49).trans (congrArg Int32.toInt (ee35))
  have q196 : elm (S181 7) 9 = v34.toInt := (elm_of c185 9).trans (congrArg Int32.toInt (((show cpF f1 10 4 0 10 9 = f1 49 from rfl).trans (ee35))))
  have q197 : elm (S 7) 10 = v40.toInt := (elm_of c2 10).trans (congrArg Int32.toInt (ee41))
  have q198 : elm (S181 7) 10 = v40.toInt := (elm_of c185 10).trans (congrArg Int32.toInt (((show cpF f1 10 4 0 10 10 = f1 10 from rfl).trans (ee41))))
  have q199 : elm (S 7) 11 = v43.toInt := (elm_of c2 11).trans (congrArg Int32.toInt (ee44))
  have q200 : elm (S181 7) 11 = v43.toInt := (elm_of c185 11).trans (congrArg Int32.toInt (((show cpF f1 10 4 0 10 11 = f1 11 from rfl).trans (ee44))))
  have q201 : elm (S 7) 13 = v46.toInt := (elm_of c2 13).trans (congrArg Int32.toInt (ee47))
  have q202 : elm (S181 7) 13 = v46.toInt := (elm_of c185 13).trans (congrArg Int32.toInt (((show cpF f1 10 4 0 10 13 = f1 13 from rfl).trans (ee47))))
  have q203 : elm (S 7) 16 = v49.toInt := (elm_of c2 16).trans (congrArg Int32.toInt (ee50))
  have q204 : elm (S181 7) 16 = v49.toInt := (elm_of c185 16).trans (congrArg Int32.toInt (((show cpF f1 10 4 0 10 16 = f1 16 from rfl).trans (ee50))))
  have q205 : elm (S 7) 18 = v52.toInt := (elm_of c2 18).trans (congrArg Int32.toInt (ee53))
  have q206 : elm (S181 7) 18 = v52.toInt := (elm_of c185 18).trans (congrArg Int32.toInt (((show cpF f1 10 4 0 10 18 = f1 18 from rfl).trans (ee53))))
  have q207 : elm (S 7) 19 = v55.toInt := (elm_of c2 19).trans (congrArg Int32.toInt (ee56))
  have q208 : elm (S181 7) 19 = v55.toInt := (elm_of c185 19).trans (congrArg Int32.toInt (((show cpF f1 10 4 0 10 19 = f1 19 from rfl).trans (ee56))))
  have q209 : elm (S 7) 20 = v58.toInt := (elm_of c2 20).trans (congrArg Int32.toInt (ee59))
  have q210 : elm (S181 7) 20 = v58.toInt := (elm_of c185 20).trans (congrArg Int32.toInt (((show cpF f1 10 4 0 10 20 = f1 20 from rfl).trans (ee59))))
  have q211 : elm (S 7) 21 = v61.toInt := (elm_of c2 21).trans (congrArg Int32.toInt (ee62))
  have q212 : elm (S181 7) 21 = v61.toInt := (elm_of c185 21).trans (congrArg Int32.toInt (((show cpF f1 10 4 0 10 21 = f1 21 from rfl).trans (ee62))))
  have q213 : elm (S 7) 23 = v64.toInt := (elm_of c2 23).trans (congrArg Int32.toInt (ee65))
  have q214 : elm (S181 7) 23 = v64.toInt := (elm_of c185 23).trans (congrArg Int32.toInt (((show cpF f1 10 4 0 10 23 = f1 23 from rfl).trans (ee65))))
  have q215 : elm (S 7) 26 = v67.toInt := (elm_of c2 26).trans (congrArg Int32.toInt (ee68))
  have q216 : elm (S181 7) 26 = v67.toInt := (elm_of c185 26).trans (congrArg Int32.toInt (((show cpF f1 10 4 0 10 26 = f1 26 from rfl).trans (ee68))))
  have q217 : elm (S 7) 28 = v70.toInt := (elm_of c2 28).trans (congrArg Int32.toInt (ee71))
  have q218 : elm (S181 7) 28 = v70.toInt := (elm_of c185 28).trans (congrArg Int32.toInt (((show cpF f1 10 4 0 10 28 = f1 28 from rfl).trans (ee71))))
  have q219 : elm (S 7) 29 = v73.toInt := (elm_of c2 29).trans (congrArg Int32.toInt (ee74))
  have q220 : elm (S181 7) 29 = v73.toInt := (elm_of c185 29).trans (congrArg Int32.toInt (((show cpF f1 10 4 0 10 29 = f1 29 from rfl).trans (ee74))))
  have q221 : elm (S 7) 30 = v76.toInt := (elm_of c2 30).trans (congrArg Int32.toInt (ee77))
  have q222 : elm (S181 7) 30 = v76.toInt := (elm_of c185 30).trans (congrArg Int32.toInt (((show cpF f1 10 4 0 10 30 = f1 30 from rfl).trans (ee77))))
  have q223 : elm (S 7) 31 = v79.toInt := (elm_of c2 31).trans (congrArg Int32.toInt (ee80))
  have q224 : elm (S181 7) 31 = v79.toInt := (elm_of c185 31).trans (congrArg Int32.toInt (((show cpF f1 10 4 0 10 31 = f1 31 from rfl).trans (ee80))))
  have q225 : elm (S 7) 33 = v82.toInt := (elm_of c2 33).trans (congrArg Int32.toInt (ee83))
  have q226 : elm (S181 7) 33 = v82.toInt := (elm_of c185 33).trans (congrArg Int32.toInt (((show cpF f1 10 4 0 10 33 = f1 33 from rfl).trans (ee83))))
  have q227 : elm (S 7) 36 = v85.toInt := (elm_of c2 36).trans (congrArg Int32.toInt (ee86))
  have q228 : elm (S181 7) 36 = v85.toInt := (elm_of c185 36).trans (congrArg Int32.toInt (((show cpF f1 10 4 0 10 36 = f1 36 from rfl).trans (ee86))))
  have q229 : elm (S 7) 38 = v88.toInt := (elm_of c2 38).trans (congrArg Int32.toInt (ee89))
  have q230 : elm (S181 7) 38 = v88.toInt := (elm_of c185 38).trans (congrArg Int32.toInt (((show cpF f1 10 4 0 10 38 = f1 38 from rfl).trans (ee89))))
  have q231 : elm (S 7) 39 = v91.toInt := (elm_of c2 39).trans (congrArg Int32.toInt (ee92))
  have q232 : elm (S181 7) 39 = v91.toInt := (elm_of c185 39).trans (congrArg Int32.toInt (((show cpF f1 10 4 0 10 39 = f1 39 from rfl).trans (ee92))))
  have q233 : elm (S 6) 4 = v97.toInt := (elm_of c95 4).trans (congrArg Int32.toInt (ee98))
  have c234 : S181 6 = .inl (g.2 0, 5, .inl (cpF f94 1 4 0 1)) := (up_ne eS181 (by decide) (up_ne eS176 (by decide) (up_ne eS170 (by decide) (up_ne eS163 (by decide) (up_ne eS159 (by decide) (up_ne eS152 (by decide) c148))))))
  have q235 : elm (S181 6) 0 = v97.toInt := (elm_of c234 0).trans (congrArg Int32.toInt (((show cpF f94 1 4 0 1 0 = f94 4 from rfl).trans (ee98))))
  have q236 : elm (S 6) 1 = v103.toInt := (elm_of c95 1).trans (congrArg Int32.toInt (ee104))
  have q237 : elm (S181 6) 1 = v103.toInt := (elm_of c234 1).trans (congrArg Int32.toInt (((show cpF f94 1 4 0 1 1 = f94 1 from rfl).trans (ee104))))
  have q238 : elm (S 6) 2 = v106.toInt := (elm_of c95 2).trans (congrArg Int32.toInt (ee107))
  have q239 : elm (S181 6) 2 = v106.toInt := (elm_of c234 2).trans (congrArg Int32.toInt (((show cpF f94 1 4 0 1 2 = f94 2 from rfl).trans (ee107))))
  have q240 : elm (S 6) 3 = v109.toInt := (elm_of c95 3).trans (congrArg Int32.toInt (ee110))
  have q241 : elm (S181 6) 3 = v109.toInt := (elm_of c234 3).trans (congrArg Int32.toInt (((show cpF f94 1 4 0 1 3 = f94 3 from rfl).trans (ee110))))
  have c242 : S181 9 = .inl (g.2 0, 120, .inl (cpF f115 24 4 0 24)) := (up_ne eS181 (by decide) (up_ne eS176 (by decide) (up_ne eS170 (by decide) c164)))
  exact xrv E hr hlk hQ (⟨hI, (up_o (up_o (up_o (up_o (up_o (up_o (up_o o_refl eS147 (by decide)) eS152 (by decide)) eS159 (by decide)) eS163 (by decide)) eS170 (by decide)) eS176 (by decide)) eS181 (by decide)), ⟨by omega, by omega⟩, ⟨by omega, by omega⟩, ⟨by omega, by omega⟩, ⟨by omega, by omega⟩, ⟨by omega, by omega⟩, ⟨by omega, by omega⟩, ⟨by omega, by omega⟩, ⟨by omega, by omega⟩, ⟨by omega, by omega⟩, ⟨by omega, by omega⟩, ⟨by omega, by omega⟩, ⟨by omega, by omega⟩, ⟨by omega, by omega⟩, ⟨by omega, by omega⟩, ⟨by omega, by omega⟩, ⟨by omega, by omega⟩, ⟨by omega, by omega⟩, ⟨by omega, by omega⟩, ⟨by omega, by omega⟩, ⟨by omega, by omega⟩, ⟨by omega, by omega⟩, ⟨by omega, by omega⟩, ⟨by omega, by omega⟩, ⟨by omega, by omega⟩, ⟨by omega, by omega⟩, ⟨by omega, by omega⟩, ⟨by omega, by omega⟩, ⟨by omega, by omega⟩, (at_cpb c2 c113 c185 c182 b3.2.2.2.2.2.2.2 hAT4), (at_cpo c2 c113 c185 c182 b3.2.2.2.2.2.2.2 (by decide) hAT1), (at_cpo c2 c113 c185 c182 b3.2.2.2.2.2.2.2 (by decide) hAT2), (at_cpo c2 c113 c185 c182 b3.2.2.2.2.2.2.2 (by decide) hAT3), (ht_cpb c2 c116 c185 c242 b3.2.2.2.2.1 hHT4), (ht_cpo c2 c116 c185 c242 b3.2.2.2.2.1 (by decide) hHT1), (ht_cpo c2 c116 c185 c242 b3.2.2.2.2.1 (by decide) hHT2), (ht_cpo c2 c116 c185 c242 b3.2.2.2.2.1 (by decide) hHT3)⟩) dX12_copyShore_76
set_option maxHeartbeats 4000000 in
set_option maxRecDepth 100000 in
theorem gX12_copyShore_0_1 (l : Launch) (g : GG) (ad : Nat → Nat) (hD : Dj ad 20) (S : SS) (hI : InvM g ad S) (hAT0 : ATp (S 7) (S 12) 0) (hAT1 : ATp (S 7) (S 12) 1) (hAT2 : ATp (S 7) (S 12) 2) (hAT3 : ATp (S 7) (S 12) 3) (hHT0 : HTp (S 7) (S 9) 0) (hHT1 : HTp (S 7) (S 9) 1) (hHT2 : HTp (S 7) (S 9) 2) (hHT3 : HTp (S 7) (S 9) 3) : Met l yX12_copyShore (wG (.code yX12_copyShore cX12_copyShore 3 none)) (Rm 1) (XPre g ad 20 S [.ref (ad 0), .int 0, .int 1]) (va_Qv (fun S' => InvM g ad S' ∧ (∀ j, j ∉ ([6, 7, 8, 9, 10, 11, 12] : List Nat) → S' j = S j) ∧ (0 ≤ elm (S 7) 0 + (-1) * elm (S' 7) 10 ∧ 0 ≤ elm (S' 7) 10 + (-1) * elm (S 7) 0) ∧ (0 ≤ elm (S 7) 1 + (-1) * elm (S' 7) 11 ∧ 0 ≤ elm (S' 7) 11 + (-1) * elm (S 7) 1) ∧ (0 ≤ elm (S 7) 3 + (-1) * elm (S' 7) 13 ∧ 0 ≤ elm (S' 7) 13 + (-1) * elm (S 7) 3) ∧ (0 ≤ elm (S 7) 6 + (-1) * elm (S' 7) 16 ∧ 0 ≤ elm (S' 7) 16 + (-1) * elm (S 7) 6) ∧ (0 ≤ elm (S 7) 8 + (-1) * elm (S' 7) 18 ∧ 0 ≤ elm (S' 7) 18 + (-1) * elm (S 7) 8) ∧ (0 ≤ elm (S 7) 9 + (-1) * elm (S' 7) 19 ∧ 0 ≤ elm (S' 7) 19 + (-1) * elm (S 7) 9) ∧ (0 ≤ elm (S 7) 0 + (-1) * elm (S' 7) 0 ∧ 0 ≤ elm (S' 7) 0 + (-1) * elm (S 7) 0) ∧ (0 ≤ elm (S 7) 1 + (-1) * elm (S' 7) 1 ∧ 0 ≤ elm (S' 7) 1 + (-1) * elm (S 7) 1) ∧ (0 ≤ elm (S 7) 3 + (-1) * elm (S' 7) 3 ∧ 0 ≤ elm (S' 7) 3 + (-1) * elm (S 7) 3) ∧ (0 ≤ elm (S 7) 6 + (-1) * elm (S' 7) 6 ∧ 0 ≤ elm (S' 7) 6 + (-1) * elm (S 7) 6) ∧ (0 ≤ elm (S 7) 8 + (-1) * elm (S' 7) 8 ∧ 0 ≤ elm (S' 7) 8 + (-1) * elm (S 7) 8) ∧ (0 ≤ elm (S 7) 9 + (-1) * elm (S' 7) 9 ∧ 0 ≤ elm (S' 7) 9 + (-1) * elm (S 7) 9) ∧ (0 ≤ elm (S 7) 20 + (-1) * elm (S' 7) 20 ∧ 0 ≤ elm (S' 7) 20 + (-1) * elm (S 7) 20) ∧ (0 ≤ elm (S 7) 21 + (-1) * elm (S' 7) 21 ∧ 0 ≤ elm (S' 7) 21 + (-1) * elm (S 7) 21) ∧ (0 ≤ elm (S 7) 23 + (-1) * elm (S' 7) 23 ∧ 0 ≤ elm (S' 7) 23 + (-1) * elm (S 7) 23) ∧ (0 ≤ elm (S 7) 26 + (-1) * elm (S' 7) 26 ∧ 0 ≤ elm (S' 7) 26 + (-1) * elm (S 7) 26) ∧ (0 ≤ elm (S 7) 28 + (-1) * elm (S' 7) 28 ∧ 0 ≤ elm (S' 7) 28 + (-1) * elm (S 7) 28) ∧ (0 ≤ elm (S 7) 29 + (-1) * elm (S' 7) 29 ∧ 0 ≤ elm (S' 7) 29 + (-1) * elm (S 7) 29) ∧ (0 ≤ elm (S 7) 30 + (-1) * elm (S' 7) 30 ∧ 0 ≤ elm (S' 7) 30 + (-1) * elm (S 7) 30) ∧ (0 ≤ elm (S 7) 31 + (-1) * elm (S' 7) 31 ∧ 0 ≤ elm (S' 7) 31 + (-1) * elm (S 7) 31) ∧ (0 ≤ elm (S 7) 33 + (-1) * elm (S' 7) 33 ∧ 0 ≤ elm (S' 7) 33 + (-1) * elm (S 7) 33) ∧ (0 ≤ elm (S 7) 36 + (-1) * elm (S' 7) 36 ∧ 0 ≤ elm (S' 7) 36 + (-1) * elm (S 7) 36) ∧ (0 ≤ elm (S 7) 38 + (-1) * elm (S' 7) 38 ∧ 0 ≤ elm (S' 7) 38 + (-1) * elm (S 7) 38) ∧ (0 ≤ elm (S 7) 39 + (-1) * elm (S' 7) 39 ∧ 0 ≤ elm (S' 7) 39 + (-1) * elm (S 7) 39) ∧ (0 ≤ elm (S 6) 0 + (-1) * elm (S' 6) 1 ∧ 0 ≤ elm (S' 6) 1 + (-1) * elm (S 6) 0) ∧ (0 ≤ elm (S 6) 0 + (-1) * elm (S' 6) 0 ∧ 0 ≤ elm (S' 6) 0 + (-1) * elm (S 6) 0) ∧ (0 ≤ elm (S 6) 2 + (-1) * elm (S' 6) 2 ∧ 0 ≤ elm (S' 6) 2 + (-1) * elm (S 6) 2) ∧ (0 ≤ elm (S 6) 3 + (-1) * elm (S' 6) 3 ∧ 0 ≤ elm (S' 6) 3 + (-1) * elm (S 6) 3) ∧ (ATp (S' 7) (S' 12) 0) ∧ (ATp (S' 7) (S' 12) 1) ∧ (ATp (S' 7) (S' 12) 2) ∧ (ATp (S' 7) (S' 12) 3) ∧ (HTp (S' 7) (S' 9) 0) ∧ (HTp (S' 7) (S' 9) 1) ∧ (HTp (S' 7) (S' 9) 2) ∧ (HTp (S' 7) (S' 9) 3)) (QB g ad 20) (FA ad 20)) 0 0 (FA ad 20) := by
  refine xmet cX12_copyShore "EbbWreckModel" (by decide) rfl (Nat.le_of_ble_eq_true rfl) (fun p e s m below meth c E hr hlk hml hQ ls hl => ?_)
  have hx := E.1
  have hb := E.2.1
  have hs : Sp ad 20 (FA ad 20) := Sp.fa hD
  have hl : lv_has ls 3 [(0, .ref (ad 0)), (1, .int 0), (2, .int 1)] := hl
  obtain ⟨f1, c2, b3⟩ := invM_7 hI
  obtain ⟨v4, ee5⟩ : ∃ z : Int32, f1 0 = z := ⟨_, rfl⟩
  have b6 : Bd v4 (0) (12) := (by rw [← ee5]; exact b3.1 0 (by decide))
  obtain ⟨v7, ee8⟩ : ∃ z : Int32, f1 10 = z := ⟨_, rfl⟩
  have b9 : Bd v7 (0) (12) := (by rw [← ee8]; exact b3.1 10 (by decide))
  obtain ⟨v10, ee11⟩ : ∃ z : Int32, f1 1 = z := ⟨_, rfl⟩
  have b12 : Bd v10 (0) (12) := (by rw [← ee11]; exact b3.2.1 1 (by decide))
  obtain ⟨v13, ee14⟩ : ∃ z : Int32, f1 11 = z := ⟨_, rfl⟩
  have b15 : Bd v13 (0) (12) := (by rw [← ee14]; exact b3.2.1 11 (by decide))
  obtain ⟨v16, ee17⟩ : ∃ z : Int32, f1 3 = z := ⟨_, rfl⟩
  have b18 : Bd v16 (0) (12) := (by rw [← ee17]; exact b3.2.2.2.1 3 (by decide))
  obtain ⟨v19, ee20⟩ : ∃ z : Int32, f1 13 = z := ⟨_, rfl⟩
  have b21 : Bd v19 (0) (12) := (by rw [← ee20]; exact b3.2.2.2.1 13 (by decide))
  obtain ⟨v22, ee23⟩ : ∃ z : Int32, f1 6 = z := ⟨_, rfl⟩
  have b24 : Bd v22 (0) (8) := (by rw [← ee23]; exact b3.2.2.2.2.1 6 (by decide))
  obtain ⟨v25, ee26⟩ : ∃ z : Int32, f1 16 = z := ⟨_, rfl⟩
  have b27 : Bd v25 (0) (8) := (by rw [← ee26]; exact b3.2.2.2.2.1 16 (by decide))
  obtain ⟨v28, ee29⟩ : ∃ z : Int32, f1 8 = z := ⟨_, rfl⟩
  have b30 : Bd v28 (0) (3) := (by rw [← ee29]; exact b3.2.2.2.2.2.2.1 8 (by decide))
  obtain ⟨v31, ee32⟩ : ∃ z : Int32, f1 18 = z := ⟨_, rfl⟩
  have b33 : Bd v31 (0) (3) := (by rw [← ee32]; exact b3.2.2.2.2.2.2.1 18 (by decide))
  obtain ⟨v34, ee35⟩ : ∃ z : Int32, f1 9 = z := ⟨_, rfl⟩
  have b36 : Bd v34 (0) (40) := (by rw [← ee35]; exact b3.2.2.2.2.2.2.2 9 (by decide))
  obtain ⟨v37, ee38⟩ : ∃ z : Int32, f1 19 = z := ⟨_, rfl⟩
  have b39 : Bd v37 (0) (40) := (by rw [← ee38]; exact b3.2.2.2.2.2.2.2 19 (by decide))
  obtain ⟨v40, ee41⟩ : ∃ z : Int32, f1 20 = z := ⟨_, rfl⟩
  have b42 : Bd v40 (0) (12) := (by rw [← ee41]; exact b3.1 20 (by decide))
  obtain ⟨v43, ee44⟩ : ∃ z : Int32, f1 21 = z := ⟨_, rfl⟩
  have b45 : Bd v43 (0) (12) := (by rw [← ee44]; exact b3.2.1 21 (by decide))
  obtain ⟨v46, ee47⟩ : ∃ z : Int32, f1 23 = z := ⟨_, rfl⟩
  have b48 : Bd v46 (0) (12) := (by rw [← ee47]; exact b3.2.2.2.1 23 (by decide))
  obtain ⟨v49, ee50⟩ : ∃ z : Int32, f1 26 = z := ⟨_, rfl⟩
  have b51 : Bd v49 (0) (8) := (by rw [← ee50]; exact b3.2.2.2.2.1 26 (by decide))
  obtain ⟨v52, ee53⟩ : ∃ z : Int32, f1 28 = z := ⟨_, rfl⟩
  have b54 : Bd v52 (0) (3) := (by rw [← ee53]; exact b3.2.2.2.2.2.2.1 28 (by decide))
  obtain ⟨v55, ee56⟩ : ∃ z : Int32, f1 29 = z := ⟨_, rfl⟩
  have b57 : Bd v55 (0) (40) := (by rw [← ee56]; exact b3.2.2.2.2.2.2.2 29 (by decide))
  obtain ⟨v58, ee59⟩ : ∃ z : Int32, f1 30 = z := ⟨_, rfl⟩
  have b60 : Bd v58 (0) (12) := (by rw [← ee59]; exact b3.1 30 (by decide))
  obtain ⟨v61, ee62⟩ : ∃ z : Int32, f1 31 = z := ⟨_, rfl⟩
  have b63 : Bd v61 (0) (12) := (by rw [← ee62]; exact b3.2.1 31 (by decide))
  obtain ⟨v64, ee65⟩ : ∃ z : Int32, f1 33 = z := ⟨_, rfl⟩
  have b66 : Bd v64 (0) (12) := (by rw [← ee65]; exact b3.2.2.2.1 33 (by decide))
  obtain ⟨v67, ee68⟩ : ∃ z : Int32, f1 36 = z := ⟨_, rfl⟩
  have b69 : Bd v67 (0) (8) := (by rw [← ee68]; exact b3.2.2.2.2.1 36 (by decide))
  obtain ⟨v70, ee71⟩ : ∃ z : Int32, f1 38 = z := ⟨_, rfl⟩
  have b72 : Bd v70 (0) (3) := (by rw [← ee71]; exact b3.2.2.2.2.2.2.1 38 (by decide))
  obtain ⟨v73, ee74⟩ : ∃ z : Int32, f1 39 = z := ⟨_, rfl⟩
  have b75 : Bd v73 (0) (40) := (by rw [← ee74]; exact b3.2.2.2.2.2.2.2 39 (by decide))
  obtain ⟨f76, c77, b78⟩ := invM_6 hI
  obtain ⟨v79, ee80⟩ : ∃ z : Int32, f76 0 = z := ⟨_, rfl⟩
  have b81 : Bd v79 (0) (40000) := (by rw [← ee80]; exact b78 0)
  obtain ⟨v82, ee83⟩ : ∃ z : Int32, f76 1 = z := ⟨_, rfl⟩
  have b84 : Bd v82 (0) (40000) := (by rw [← ee83]; exact b78 1)
  obtain ⟨v85, ee86⟩ : ∃ z : Int32, f76 2 = z := ⟨_, rfl⟩
  have b87 : Bd v85 (0) (40000) := (by rw [← ee86]; exact b78 2)
  obtain ⟨v88, ee89⟩ : ∃ z : Int32, f76 3 = z := ⟨_, rfl⟩
  have b90 : Bd v88 (0) (40000) := (by rw [← ee89]; exact b78 3)
  obtain ⟨f91, c92, b93⟩ := invM_12 hI
  obtain ⟨f94, c95, b96⟩ := invM_9 hI
  refine lv_aload_n hx hb dX12_copyShore_0 rfl (lv_at hl 0 rfl) ?_
  obtain ⟨v97, v98, v100, v102, v104, v105, w106, v107, v109, v110, v111, v112, v114, v116, v118, v120, v122, v123, v124, c125, b99, b101, b103, b108, b113, b115, b117, b119, b121⟩ := invM_0 hI
  have c125 : S 0 = .inr (12, [.int v97, .ref (ad 1), .ref (ad 2), .ref (ad 3), .ref (ad 4), .ref (ad 5), .int v98, .int v100, .int v102, .int v104, .int v105, .long w106, .int v107, .int v109, .int v110, .int v111, .ref (ad 6), .ref (ad 7), .ref (ad 8), .ref (ad 9), .ref (ad 10), .ref (ad 11), .ref (ad 12), .ref (ad 13), .ref (ad 14), .ref (ad 15), .int v112, .int v114, .ref (ad 16), .int v116, .int v118, .int v120, .int v122, .int v123, .ref (ad 17), .ref (ad 18), .int v124, .ref (ad 19)]) := c125
  refine xget E hQ 0 (by decide) c125 rfl 16 (by decide) q1484 rfl dX12_copyShore_1 ?_
  refine lv_iconst (v := 1) hx hb dX12_copyShore_4 (by decide) ?_
  refine lv_iload_n hx hb dX12_copyShore_5 rfl (lv_at hl 1 rfl) ?_
  refine lv_iload_n hx hb dX12_copyShore_6 rfl (lv_at hl 2 rfl) ?_
  refine xcSv E hs hQ hml hl.1 (uCopyRow l g ad 20 hD S 6 (by decide) 5 (by decide) f76 1 0 1 (by decide) (by decide) (by decide) c77) mX12_copyRow q1743 rfl ⟨(Nat.le_of_ble_eq_true rfl), (Nat.le_of_ble_eq_true rfl)⟩ ⟨(Nat.le_of_ble_eq_true rfl), (Nat.le_of_ble_eq_true rfl)⟩ (Nat.le_of_ble_eq_true rfl) rfl dX12_copyShore_7 (fun S126 H locs eS126 hQ => ?_)
  have hI := invM_up_6 hI eS126 ⟨_, rfl, cp_b b78⟩
  have b128 : ∀ j, Bd ((cpF f76 1 0 1 1) j) (0) (40000) := cp_b b78
  have c127 : S126 6 = .inl (g.2 0, 5, .inl (cpF f76 1 0 1 1)) := up_at eS126 rfl
  refine lv_aload_n hx hb dX12_copyShore_10 rfl (lv_at hl 0 rfl) ?_
  have c129 : S126 0 = .inr (12, [.int v97, .ref (ad 1), .ref (ad 2), .ref (ad 3), .ref (ad 4), .ref (ad 5), .int v98, .int v100, .int v102, .int v104, .int v105, .long w106, .int v107, .int v109, .int v110, .int v111, .ref (ad 6), .ref (ad 7), .ref (ad 8), .ref (ad 9), .ref (ad 10), .ref (ad 11), .ref (ad 12), .ref (ad 13), .ref (ad 14), .ref (ad 15), .int v112, .int v114, .ref (ad 16), .int v116, .int v118, .int v120, .int v122, .int v123, .ref (ad 17), .ref (ad 18), .int v124, .ref (ad 19)]) := (up_ne eS126 (by decide) c125)
  refine xget E hQ 0 (by decide) c129 rfl 17 (by decide) q1485 rfl dX12_copyShore_11 ?_
  refine lv_bipush (v := 10) hx hb dX12_copyShore_14 (by decide) ?_
  refine lv_iload_n hx hb dX12_copyShore_16 rfl (lv_at hl 1 rfl) ?_
  refine lv_iload_n hx hb dX12_copyShore_17 rfl (lv_at hl 2 rfl) ?_
  have c130 : S126 7 = .inl (g.2 0, 50, .inl f1) := (up_ne eS126 (by decide) c2)
  refine xcSv E hs hQ hml hl.1 (uCopyRow l g ad 20 hD S126 7 (by decide) 50 (by decide) f1 10 0 1 (by decide) (by decide) (by decide) c130) mX12_copyRow q1743 rfl ⟨(Nat.le_of_ble_eq_true rfl), (Nat.le_of_ble_eq_true rfl)⟩ ⟨(Nat.le_of_ble_eq_true rfl), (Nat.le_of_ble_eq_true rfl)⟩ (Nat.le_of_ble_eq_true rfl) rfl dX12_copyShore_18 (fun S131 H locs eS131 hQ => ?_)
  have hI := invM_up_7 hI eS131 ⟨_, rfl, ⟨cp_m (q := 1) b3.1 (by decide), cp_m (q := 1) b3.2.1 (by decide), cp_m (q := 1) b3.2.2.1 (by decide), cp_m (q := 1) b3.2.2.2.1 (by decide), cp_m (q := 1) b3.2.2.2.2.1 (by decide), cp_m (q := 1) b3.2.2.2.2.2.1 (by decide), cp_m (q := 1) b3.2.2.2.2.2.2.1 (by decide), cp_m (q := 1) b3.2.2.2.2.2.2.2 (by decide)⟩⟩
  have b133 : (∀ j, j % 10 = 0 → Bd ((cpF f1 10 0 1 10) j) (0) (12)) ∧ (∀ j, j % 10 = 1 → Bd ((cpF f1 10 0 1 10) j) (0) (12)) ∧ (∀ j, j % 10 = 2 → Bd ((cpF f1 10 0 1 10) j) (0) (6)) ∧ (∀ j, j % 10 = 3 → Bd ((cpF f1 10 0 1 10) j) (0) (12)) ∧ (∀ j, j % 10 = 6 → Bd ((cpF f1 10 0 1 10) j) (0) (8)) ∧ (∀ j, j % 10 = 7 → Bd ((cpF f1 10 0 1 10) j) (0) (6)) ∧ (∀ j, j % 10 = 8 → Bd ((cpF f1 10 0 1 10) j) (0) (3)) ∧ (∀ j, j % 10 = 9 → Bd ((cpF f1 10 0 1 10) j) (0) (40)) := ⟨cp_m (q := 1) b3.1 (by decide), cp_m (q := 1) b3.2.1 (by decide), cp_m (q := 1) b3.2.2.1 (by decide), cp_m (q := 1) b3.2.2.2.1 (by decide), cp_m (q := 1) b3.2.2.2.2.1 (by decide), cp_m (q := 1) b3.2.2.2.2.2.1 (by decide), cp_m (q := 1) b3.2.2.2.2.2.2.1 (by decide), cp_m (q := 1) b3.2.2.2.2.2.2.2 (by decide)⟩
  have c132 : S131 7 = .inl (g.2 0, 50, .inl (cpF f1 10 0 1 10)) := up_at eS131 rfl
  refine lv_aload_n hx hb dX12_copyShore_21 rfl (lv_at hl 0 rfl) ?_
  have c134 : S131 0 = .inr (12, [.int v97, .ref (ad 1), .ref (ad 2), .ref (ad 3), .ref (ad 4), .ref (ad 5), .int v98, .int v100, .int v102, .int v104, .int v105, .long w106, .int v107, .int v109, .int v110, .int v111, .ref (ad 6), .ref (ad 7), .ref (ad 8), .ref (ad 9), .ref (ad 10), .ref (ad 11), .ref (ad 12), .ref (ad 13), .ref (ad 14), .ref (ad 15), .int v112, .int v114, .ref (ad 16), .int v116, .int v118, .int v120, .int v122, .int v123, .ref (ad 17), .ref (ad 18), .int v124, .ref (ad 19)]) := (up_ne eS131 (by decide) c129)
  refine xget E hQ 0 (by decide) c134 rfl 18 (by decide) q1486 rfl dX12_copyShore_22 ?_
  refine lv_bipush (v := 24) hx hb dX12_copyShore_25 (by decide) ?_
  refine lv_iload_n hx hb dX12_copyShore_27 rfl (lv_at hl 1 rfl) ?_
  refine lv_iload_n hx hb dX12_copyShore_28 rfl (lv_at hl 2 rfl) ?_
  obtain ⟨f135, c136⟩ := invM_8 hI
  refine xcSv E hs hQ hml hl.1 (uCopyRow l g ad 20 hD S131 8 (by decide) 120 (by decide) f135 24 0 1 (by decide) (by decide) (by decide) c136) mX12_copyRow q1743 rfl ⟨(Nat.le_of_ble_eq_true rfl), (Nat.le_of_ble_eq_true rfl)⟩ ⟨(Nat.le_of_ble_eq_true rfl), (Nat.le_of_ble_eq_true rfl)⟩ (Nat.le_of_ble_eq_true rfl) rfl dX12_copyShore_29 (fun S138 H locs eS138 hQ => ?_)
  have hI := invM_up_8 hI eS138 ⟨_, rfl⟩
  have c139 : S138 8 = .inl (g.2 0, 120, .inl (cpF f135 24 0 1 24)) := up_at eS138 rfl
  refine lv_aload_n hx hb dX12_copyShore_32 rfl (lv_at hl 0 rfl) ?_
  have c140 : S138 0 = .inr (12, [.int v97, .ref (ad 1), .ref (ad 2), .ref (ad 3), .ref (ad 4), .ref (ad 5), .int v98, .int v100, .int v102, .int v104, .int v105, .long w106, .int v107, .int v109, .int v110, .int v111, .ref (ad 6), .ref (ad 7), .ref (ad 8), .ref (ad 9), .ref (ad 10), .ref (ad 11), .ref (ad 12), .ref (ad 13), .ref (ad 14), .ref (ad 15), .int v112, .int v114, .ref (ad 16), .int v116, .int v118, .int v120, .int v122, .int v123, .ref (ad 17), .ref (ad 18), .int v124, .ref (ad 19)]) := (up_ne eS138 (by decide) c134)
  refine xget E hQ 0 (by decide) c140 rfl 19 (by decide) q1487 rfl dX12_copyShore_33 ?_
  refine lv_bipush (v := 24) hx hb dX12_copyShore_36 (by decide) ?_
  refine lv_iload_n hx hb dX12_copyShore_38 rfl (lv_at hl 1 rfl) ?_
  refine lv_iload_n hx hb dX12_copyShore_39 rfl (lv_at hl 2 rfl) ?_
  have c141 : S138 9 = .inl (g.2 0, 120, .inl f94) := (up_ne eS138 (by decide) (up_ne eS131 (by decide) (up_ne eS126 (by decide) c95)))
  refine xcSv E hs hQ hml hl.1 (uCopyRow l g ad 20 hD S138 9 (by decide) 120 (by decide) f94 24 0 1 (by decide) (by decide) (by decide) c141) mX12_copyRow q1743 rfl ⟨(Nat.le_of_ble_eq_true rfl), (Nat.le_of_ble_eq_true rfl)⟩ ⟨(Nat.le_of_ble_eq_true rfl), (Nat.le_of_ble_eq_true rfl)⟩ (Nat.le_of_ble_eq_true rfl) rfl dX12_copyShore_40 (fun S142 H locs eS142 hQ => ?_)
  have hI := invM_up_9 hI eS142 ⟨_, rfl, ⟨cp_m (q := 8) b96.1 (by decide), cp_m (q := 8) b96.2 (by decide)⟩⟩
  have b144 : (∀ j, j % 3 = 1 → Bd ((cpF f94 24 0 1 24) j) (0) (11)) ∧ (∀ j, j % 3 = 2 → Bd ((cpF f94 24 0 1 24) j) (0) (99)) := ⟨cp_m (q := 8) b96.1 (by decide), cp_m (q := 8) b96.2 (by decide)⟩
  have c143 : S142 9 = .inl (g.2 0, 120, .inl (cpF f94 24 0 1 24)) := up_at eS142 rfl
  refine lv_aload_n hx hb dX12_copyShore_43 rfl (lv_at hl 0 rfl) ?_
  have c145 : S142 0 = .inr (12, [.int v97, .ref (ad 1), .ref (ad 2), .ref (ad 3), .ref (ad 4), .ref (ad 5), .int v98, .int v100, .int v102, .int v104, .int v105, .long w106, .int v107, .int v109, .int v110, .int v111, .ref (ad 6), .ref (ad 7), .ref (ad 8), .ref (ad 9), .ref (ad 10), .ref (ad 11), .ref (ad 12), .ref (ad 13), .ref (ad 14), .ref (ad 15), .int v112, .int v114, .ref (ad 16), .int v116, .int v118, .int v120, .int v122, .int v123, .ref (ad 17), .ref (ad 18), .int v124, .ref (ad 19)]) := (up_ne eS142 (by decide) c140)
  refine xget E hQ 0 (by decide) c145 rfl 20 (by decide) q1488 rfl dX12_copyShore_44 ?_
  refine lv_bipush (v := 24) hx hb dX12_copyShore_47 (by decide) ?_
  refine lv_iload_n hx hb dX12_copyShore_49 rfl (lv_at hl 1 rfl) ?_
  refine lv_iload_n hx hb dX12_copyShore_50 rfl (lv_at hl 2 rfl) ?_
  obtain ⟨f146, c147⟩ := invM_10 hI
  refine xcSv E hs hQ hml hl.1 (uCopyRow l g ad 20 hD S142 10 (by decide) 120 (by decide) f146 24 0 1 (by decide) (by decide) (by decide) c147) mX12_copyRow q1743 rfl ⟨(Nat.le_of_ble_eq_true rfl), (Nat.le_of_ble_eq_true rfl)⟩ ⟨(Nat.le_of_ble_eq_true rfl), (Nat.le_of_ble_eq_true rfl)⟩ (Nat.le_of_ble_eq_true rfl) rfl dX12_copyShore_51 (fun S149 H locs eS149 hQ => ?_)
  have hI := invM_up_10 hI eS149 ⟨_, rfl⟩
  have c150 : S149 10 = .inl (g.2 0, 120, .inl (cpF f146 24 0 1 24)) := up_at eS149 rfl
  refine lv_aload_n hx hb dX12_copyShore_54 rfl (lv_at hl 0 rfl) ?_
  have c151 : S149 0 = .inr (12, [.int v97, .ref (ad 1), .ref (ad 2), .ref (ad 3), .ref (ad 4), .ref (ad 5), .int v98, .int v100, .int v102, .int v104, .int v105, .long w106, .int v107, .int v109, .int v110, .int v111, .ref (ad 6), .ref (ad 7), .ref (ad 8), .ref (ad 9), .ref (ad 10), .ref (ad 11), .ref (ad 12), .ref (ad 13), .ref (ad 14), .ref (ad 15), .int v112, .int v114, .ref (ad 16), .int v116, .int v118, .int v120, .int v122, .int v123, .ref (ad 17), .ref (ad 18), .int v124, .ref (ad 19)]) := (up_ne eS149 (by decide) c145)
  refine xget E hQ 0 (by decide) c151 rfl 21 (by decide) q1489 rfl dX12_copyShore_55 ?_
  refine lv_iconst (v := 3) hx hb dX12_copyShore_58 (by decide) ?_
  refine lv_iload_n hx hb dX12_copyShore_59 rfl (lv_at hl 1 rfl) ?_
  refine lv_iload_n hx hb dX12_copyShore_60 rfl (lv_at hl 2 rfl) ?_
  obtain ⟨f152, c153, b154⟩ := invM_11 hI
  refine xcSv E hs hQ hml hl.1 (uCopyRow l g ad 20 hD S149 11 (by decide) 15 (by decide) f152 3 0 1 (by decide) (by decide) (by decide) c153) mX12_copyRow q1743 rfl ⟨(Nat.le_of_ble_eq_true rfl), (Nat.le_of_ble_eq_true rfl)⟩ ⟨(Nat.le_of_ble_eq_true rfl), (Nat.le_of_ble_eq_true rfl)⟩ (Nat.le_of_ble_eq_true rfl) rfl dX12_copyShore_61 (fun S155 H locs eS155 hQ => ?_)
  have hI := invM_up_11 hI eS155 ⟨_, rfl, cp_b b154⟩
  have b157 : ∀ j, Bd ((cpF f152 3 0 1 3) j) (0) (11) := cp_b b154
  have c156 : S155 11 = .inl (g.2 0, 15, .inl (cpF f152 3 0 1 3)) := up_at eS155 rfl
  refine lv_aload_n hx hb dX12_copyShore_64 rfl (lv_at hl 0 rfl) ?_
  have c158 : S155 0 = .inr (12, [.int v97, .ref (ad 1), .ref (ad 2), .ref (ad 3), .ref (ad 4), .ref (ad 5), .int v98, .int v100, .int v102, .int v104, .int v105, .long w106, .int v107, .int v109, .int v110, .int v111, .ref (ad 6), .ref (ad 7), .ref (ad 8), .ref (ad 9), .ref (ad 10), .ref (ad 11), .ref (ad 12), .ref (ad 13), .ref (ad 14), .ref (ad 15), .int v112, .int v114, .ref (ad 16), .int v116, .int v118, .int v120, .int v122, .int v123, .ref (ad 17), .ref (ad 18), .int v124, .ref (ad 19)]) := (up_ne eS155 (by decide) c151)
  refine xget E hQ 0 (by decide) c158 rfl 22 (by decide) q1490 rfl dX12_copyShore_65 ?_
  refine lv_sipush (v := 160) hx hb dX12_copyShore_68 (by decide) ?_
  refine lv_iload_n hx hb dX12_copyShore_71 rfl (lv_at hl 1 rfl) ?_
  refine lv_iload_n hx hb dX12_copyShore_72 rfl (lv_at hl 2 rfl) ?_
  have c159 : S155 12 = .inl (g.2 0, 800, .inl f91) := (up_ne eS155 (by decide) (up_ne eS149 (by decide) (up_ne eS142 (by decide) (up_ne eS138 (by decide) (up_ne eS131 (by decide) (up_ne eS126 (by decide) c92))))))
  refine xcSv E hs hQ hml hl.1 (uCopyRow l g ad 20 hD S155 12 (by decide) 800 (by decide) f91 160 0 1 (by decide) (by decide) (by decide) c159) mX12_copyRow q1743 rfl ⟨(Nat.le_of_ble_eq_true rfl), (Nat.le_of_ble_eq_true rfl)⟩ ⟨(Nat.le_of_ble_eq_true rfl), (Nat.le_of_ble_eq_true rfl)⟩ (Nat.le_of_ble_eq_true rfl) rfl dX12_copyShore_73 (fun S160 H locs eS160 hQ => ?_)
  have hI := invM_up_12 hI eS160 ⟨_, rfl, ⟨cp_m (q := 40) b93.1 (by decide), cp_m (q := 40) b93.2 (by decide)⟩⟩
  have b162 : (∀ j, j % 4 = 1 → Bd ((cpF f91 160 0 1 160) j) (0) (7)) ∧ (∀ j, j % 4 = 2 → Bd ((cpF f91 160 0 1 160) j) (0) (400)) := ⟨cp_m (q := 40) b93.1 (by decide), cp_m (q := 40) b93.2 (by decide)⟩
  have c161 : S160 12 = .inl (g.2 0, 800, .inl (cpF f91 160 0 1 160)) := up_at eS160 rfl
  have q163 : elm (S 7) 0 = v4.toInt := (elm_of c2 0).trans (congrArg Int32.toInt (ee5))
  have c164 : S160 7 = .inl (g.2 0, 50, .inl (cpF f1 10 0 1 10)) := (up_ne eS160 (by decide) (up_ne eS155 (by decide) (up_ne eS149 (by decide) (up_ne eS142 (by decide) (up_ne eS138 (by decide) c132)))))
  have q165 : elm (S160 7) 10 = v4.toInt := (elm_of c164 10).trans (congrArg Int32.toInt (((show cpF f1 10 0 1 10 10 = f1 0 from rfl).trans (ee5))))
  have q166 : elm (S 7) 1 = v10.toInt := (elm_of c2 1).trans (congrArg Int32.toInt (ee11))
  have q167 : elm (S160 7) 11 = v10.toInt := (elm_of c164 11).trans (congrArg Int32.toInt (((show cpF f1 10 0 1 10 11 = f1 1 from rfl).trans (ee11))))
  have q168 : elm (S 7) 3 = v16.toInt := (elm_of c2 3).trans (congrArg Int32.toInt (ee17))
  have q169 : elm (S160 7) 13 = v16.toInt := (elm_of c164 13).trans (congrArg Int32.toInt (((show cpF f1 10 0 1 10 13 = f1 3 from rfl).trans (ee17))))
  have q170 : elm (S 7) 6 = v22.toInt := (elm_of c2 6).trans (congrArg Int32.toInt (ee23))
  have q171 : elm (S160 7) 16 = v22.toInt := (elm_of c164 16).trans (congrArg Int32.toInt (((show cpF f1 10 0 1 10 16 = f1 6 from rfl).trans (ee23))))
  have q172 : elm (S 7) 8 = v28.toInt := (elm_of c2 8).trans (congrArg Int32.toInt (ee29))
  have q173 : elm (S160 7) 18 = v28.toInt := (elm_of c164 18).trans (congrArg Int32.toInt (((show cpF f1 10 0 1 10 18 = f1 8 from rfl).trans (ee29))))
  have q174 : elm (S 7) 9 = v34.toInt := (elm_of c2 9).trans (congrArg Int32.toInt (ee35))
  have q175 : elm (S160 7) 19 = v34.toInt := (elm_of c164 19).trans (congrArg Int32.toInt (((show cpF f1 10 0 1 10 19 = f1 9 from rfl).trans (ee35))))
  have q176 : elm (S160 7) 0 = v4.toInt := (elm_of c164 0).trans (congrArg Int32.toInt (((show cpF f1 10 0 1 10 0 = f1 0 from rfl).trans (ee5))))
  have q177 : elm (S160 7) 1 = v10.toInt := (elm_of c164 1).trans (congrArg Int32.toInt (((show cpF f1 10 0 1 10 1 = f1 1 from rfl).trans (ee11))))
  have q178 : elm (S160 7) 3 = v16.toInt := (elm_of c164 3).trans (congrArg Int32.toInt (((show cpF f1 10 0 1 10 3 = f1 3 from rfl).trans (ee17))))
  have q179 : elm (S160 7) 6 = v22.toInt := (elm_of c164 6).trans (congrArg Int32.toInt (((show cpF f1 10 0 1 10 6 = f1 6 from rfl).trans (ee23))))
  have q180 : elm (S160 7) 8 = v28.toInt := (elm_of c164 8).trans (congrArg Int32.toInt (((show cpF f1 10 0 1 10 8 = f1 8 from rfl).trans (ee29))))
  have q181 : elm (S160 7) 9 = v34.toInt := (elm_of c164 9).trans (congrArg Int32.toInt (((show cpF f1 10 0 1 10 9 = f1 9 from rfl).trans (ee35))))
  have q182 : elm (S 7) 20 = v40.toInt := (elm_of c2 20).trans (congrArg Int32.toInt (ee41))
  have q183 : elm (S160 7) 20 = v40.toInt := (elm_of c164 20).trans (congrArg Int32.toInt (((show cpF f1 10 0 1 10 20 = f1 20 from rfl).trans (ee41))))
  have q184 : elm (S 7) 21 = v43.toInt := (elm_of c2 21).trans (congrArg Int32.toInt (ee44))
  have q185 : elm (S160 7) 21 = v43.toInt := (elm_of c164 21).trans (congrArg Int32.toInt (((show cpF f1 10 0 1 10 21 = f1 21 from rfl).trans (ee44))))
  have q186 : elm (S 7) 23 = v46.toInt := (elm_of c2 23).trans (congrArg Int32.toInt (ee47))
  have q187 : elm (S160 7) 23 = v46.toInt := (elm_of c164 23).trans (congrArg Int32.toInt (((show cpF f1 10 0 1 10 23 = f1 23 from rfl).trans (ee47))))
  have q188 : elm (S 7) 26 = v49.toInt := (elm_of c2 26).trans (congrArg Int32.toInt (ee50))
  have q189 : elm (S160 7) 26 = v49.toInt := (elm_of c164 26).trans (congrArg Int32.toInt (((show cpF f1 10 0 1 10 26 = f1 26 from rfl).trans (ee50))))
  have q190 : elm (S 7) 28 = v52.toInt := (elm_of c2 28).trans (congrArg Int32.toInt (ee53))
  have q191 : elm (S160 7) 28 = v52.toInt := (elm_of c164 28).trans (congrArg Int32.toInt (((show cpF f1 10 0 1 10 28 = f1 28 from rfl).trans (ee53))))
  have q192 : elm (S 7) 29 = v55.toInt := (elm_of c2 29).trans (congrArg Int32.toInt (ee56))
  have q193 : elm (S160 7) 29 = v55.toInt := (elm_of c164 29).trans (congrArg Int32.toInt (((show cpF f1 10 0 1 10 29 = f1 29 from rfl).trans (ee56))))
  have q194 : elm (S 7) 30 = v58.toInt := (elm_of c2 30).trans (congrArg Int32.toInt (ee59))
  have q195 : elm (S160 7) 30 = v58.toInt := (elm_of c164 30).trans (congrArg Int32.toInt (((show cpF f1 10 0 1 10 30 = f1 30 from rfl).trans (ee59))))
  have q196 : elm (S 7) 31 = v61.toInt := (elm_of c2 31).trans (congrArg Int32.toInt (ee62))
  have q197 : elm (S160 7) 31 = v61.toInt := (elm_of c164 31).trans (congrArg Int32.toInt (((show cpF f1 10 0 1 10 31 = f1 31 from rfl).trans (ee62))))
  have q198 : elm (S 7) 33 = v64.toInt := (elm_of c2 33).trans (congrArg Int32.toInt (ee65))
  have q199 : elm (S160 7) 33 = v64.toInt := (elm_of c164 33).trans (congrArg Int32.toInt (((show cpF f1 10 0 1 10 33 = f1 33 from rfl).trans (ee65))))
  have q200 : elm (S 7) 36 = v67.toInt := (elm_of c2 36).trans (congrArg Int32.toInt (ee68))
  have q201 : elm (S160 7) 36 = v67.toInt := (elm_of c164 36).trans (congrArg Int32.toInt (((show cpF f1 10 0 1 10 36 = f1 36 from rfl).trans (ee68))))
  have q202 : elm (S 7) 38 = v70.toInt := (elm_of c2 38).trans (congrArg Int32.toInt (ee71))
  have q203 : elm (S160 7) 38 = v70.toInt := (elm_of c164 38).trans (congrArg Int32.toInt (((show cpF f1 10 0 1 10 38 = f1 38 from rfl).trans (ee71))))
  have q204 : elm (S 7) 39 = v73.toInt := (elm_of c2 39).trans (congrArg Int32.toInt (ee74))
  have q205 : elm (S160 7) 39 = v73.toInt := (elm_of c164 39).trans (congrArg Int32.toInt (((show cpF f1 10 0 1 10 39 = f1 39 from rfl).trans (ee74))))
  have q206 : elm (S 6) 0 = v79.toInt := (elm_of c77 0).trans (congrArg Int32.toInt (ee80))
  have c207 : S160 6 = .inl (g.2 0, 5, .inl (cpF f76 1 0 1 1)) := (up_ne eS160 (by decide) (up_ne eS155 (by decide) (up_ne eS149 (by decide) (up_ne eS142 (by decide) (up_ne eS138 (by decide) (up_ne eS131 (by decide) c127))))))
  have q208 : elm (S160 6) 1 = v79.toInt := (elm_of c207 1).trans (congrArg Int32.toInt (((show cpF f76 1 0 1 1 1 = f76 0 from rfl).trans (ee80))))
  have q209 : elm (S160 6) 0 = v79.toInt := (elm_of c207 0).trans (congrArg Int32.toInt (((show cpF f76 1 0 1 1 0 = f76 0 from rfl).trans (ee80))))
  have q210 : elm (S 6) 2 = v85.toInt := (elm_of c77 2).trans (congrArg Int32.toInt (ee86))
  have q211 : elm (S160 6) 2 = v85.toInt := (elm_of c207 2).trans (congrArg Int32.toInt (((show cpF f76 1 0 1 1 2 = f76 2 from rfl).trans (ee86))))
  have q212 : elm (S 6) 3 = v88.toInt := (elm_of c77 3).trans (congrArg Int32.toInt (ee89))
  have q213 : elm (S160 6) 3 = v88.toInt := (elm_of c207 3).trans (congrArg Int32.toInt (((show cpF f76 1 0 1 1 3 = f76 3 from rfl).trans (ee89))))
  have c214 : S160 9 = .inl (g.2 0, 120, .inl (cpF f94 24 0 1 24)) := (up_ne eS160 (by decide) (up_ne eS155 (by decide) (up_ne eS149 (by decide) c143)))
  exact xrv E hr hlk hQ (⟨hI, (up_o (up_o (up_o (up_o (up_o (up_o (up_o o_refl eS126 (by decide)) eS131 (by decide)) eS138 (by decide)) eS142 (by decide)) eS149 (by decide)) eS155 (by decide)) eS160 (by decide)), ⟨by omega, by omega⟩, ⟨by omega, by omega⟩, ⟨by omega, by omega⟩, ⟨by omega, by omega⟩, ⟨by omega, by omega⟩, ⟨by omega, by omega⟩, ⟨by omega, by omega⟩, ⟨by omega, by omega⟩, ⟨by omega, by omega⟩, ⟨by omega, by omega⟩, ⟨by omega, by omega⟩, ⟨by omega, by omega⟩, ⟨by omega, by omega⟩, ⟨by omega, by omega⟩, ⟨by omega, by omega⟩, ⟨by omega, by omega⟩, ⟨by omega, by omega⟩, ⟨by omega, by omega⟩, ⟨by omega, by omega⟩, ⟨by omega, by omega⟩, ⟨by omega, by omega⟩, ⟨by omega, by omega⟩, ⟨by omega, by omega⟩, ⟨by omega, by omega⟩, ⟨by omega, by omega⟩, ⟨by omega, by omega⟩, ⟨by omega, by omega⟩, ⟨by omega, by omega⟩, (at_cpo c2 c92 c164 c161 b3.2.2.2.2.2.2.2 (by decide) hAT0), (at_cpb c2 c92 c164 c161 b3.2.2.2.2.2.2.2 hAT0), (at_cpo c2 c92 c164 c161 b3.2.2.2.2.2.2.2 (by decide) hAT2), (at_cpo c2 c92 c164 c161 b3.2.2.2.2.2.2.2 (by decide) hAT3), (ht_cpo c2 c95 c164 c214 b3.2.2.2.2.1 (by decide) hHT0), (ht_cpb c2 c95 c164 c214 b3.2.2.2.2.1 hHT0), (ht_cpo c2 c95 c164 c214 b3.2.2.2.2.1 (by decide) hHT2), (ht_cpo c2 c95 c164 c214 b3.2.2.2.2.1 (by decide) hHT3)⟩) dX12_copyShore_76
set_option maxHeartbeats 4000000 in
set_option maxRecDepth 100000 in
theorem gX12_copyShore_0_2 (l : Launch) (g : GG) (ad : Nat → Nat) (hD : Dj ad 20) (S : SS) (hI : InvM g ad S) (hAT0 : ATp (S 7) (S 12) 0) (hAT1 : ATp (S 7) (S 12) 1) (hAT2 : ATp (S 7) (S 12) 2) (hAT3 : ATp (S 7) (S 12) 3) (hHT0 : HTp (S 7) (S 9) 0) (hHT1 : HTp (S 7) (S 9) 1) (hHT2 : HTp (S 7) (S 9) 2) (hHT3 : HTp (S 7) (S 9) 3) : Met l yX12_copyShore (wG (.code yX12_copyShore cX12_copyShore 3 none)) (Rm 1) (XPre g ad 20 S [.ref (ad 0), .int 0, .int 2]) (va_Qv (fun S' => InvM g ad S' ∧ (∀ j, j ∉ ([6, 7, 8, 9, 10, 11, 12] : List Nat) → S' j = S j) ∧ (0 ≤ elm (S 7) 0 + (-1) * elm (S' 7) 20 ∧ 0 ≤ elm (S' 7) 20 + (-1) * elm (S 7) 0) ∧ (0 ≤ elm (S 7) 1 + (-1) * elm (S' 7) 21 ∧ 0 ≤ elm (S' 7) 21 + (-1) * elm (S 7) 1) ∧ (0 ≤ elm (S 7) 3 + (-1) * elm (S' 7) 23 ∧ 0 ≤ elm (S' 7) 23 + (-1) * elm (S 7) 3) ∧ (0 ≤ elm (S 7) 6 + (-1) * elm (S' 7) 26 ∧ 0 ≤ elm (S' 7) 26 + (-1) * elm (S 7) 6) ∧ (0 ≤ elm (S 7) 8 + (-1) * elm (S' 7) 28 ∧ 0 ≤ elm (S' 7) 28 + (-1) * elm (S 7) 8) ∧ (0 ≤ elm (S 7) 9 + (-1) * elm (S' 7) 29 ∧ 0 ≤ elm (S' 7) 29 + (-1) * elm (S 7) 9) ∧ (0 ≤ elm (S 7) 0 + (-1) * elm (S' 7) 0 ∧ 0 ≤ elm (S' 7) 0 + (-1) * elm (S 7) 0) ∧ (0 ≤ elm (S 7) 1 + (-1) * elm (S' 7) 1 ∧ 0 ≤ elm (S' 7) 1 + (-1) * elm (S 7) 1) ∧ (0 ≤ elm (S 7) 3 + (-1) * elm (S' 7) 3 ∧ 0 ≤ elm (S' 7) 3 + (-1) * elm (S 7) 3) ∧ (0 ≤ elm (S 7) 6 + (-1) * elm (S' 7) 6 ∧ 0 ≤ elm (S' 7) 6 + (-1) * elm (S 7) 6) ∧ (0 ≤ elm (S 7) 8 + (-1) * elm (S' 7) 8 ∧ 0 ≤ elm (S' 7) 8 + (-1) * elm (S 7) 8) ∧ (0 ≤ elm (S 7) 9 + (-1) * elm (S' 7) 9 ∧ 0 ≤ elm (S' 7) 9 + (-1) * elm (S 7) 9) ∧ (0 ≤ elm (S 7) 10 + (-1) * elm (S' 7) 10 ∧ 0 ≤ elm (S' 7) 10 + (-1) * elm (S 7) 10) ∧ (0 ≤ elm (S 7) 11 + (-1) * elm (S' 7) 11 ∧ 0 ≤ elm (S' 7) 11 + (-1) * elm (S 7) 11) ∧ (0 ≤ elm (S 7) 13 + (-1) * elm (S' 7) 13 ∧ 0 ≤ elm (S' 7) 13 + (-1) * elm (S 7) 13) ∧ (0 ≤ elm (S 7) 16 + (-1) * elm (S' 7) 16 ∧ 0 ≤ elm (S' 7) 16 + (-1) * elm (S 7) 16) ∧ (0 ≤ elm (S 7) 18 + (-1) * elm (S' 7) 18 ∧ 0 ≤ elm (S' 7) 18 + (-1) * elm (S 7) 18) ∧ (0 ≤ elm (S 7) 19 + (-1) * elm (S' 7) 19 ∧ 0 ≤ elm (S' 7) 19 + (-1) * elm (S 7) 19) ∧ (0 ≤ elm (S 7) 30 + (-1) * elm (S' 7) 30 ∧ 0 ≤ elm (S' 7) 30 + (-1) * elm (S 7) 30) ∧ (0 ≤ elm (S 7) 31 + (-1) * elm (S' 7) 31 ∧ 0 ≤ elm (S' 7) 31 + (-1) * elm (S 7) 31) ∧ (0 ≤ elm (S 7) 33 + (-1) * elm (S' 7) 33 ∧ 0 ≤ elm (S' 7) 33 + (-1) * elm (S 7) 33) ∧ (0 ≤ elm (S 7) 36 + (-1) * elm (S' 7) 36 ∧ 0 ≤ elm (S' 7) 36 + (-1) * elm (S 7) 36) ∧ (0 ≤ elm (S 7) 38 + (-1) * elm (S' 7) 38 ∧ 0 ≤ elm (S' 7) 38 + (-1) * elm (S 7) 38) ∧ (0 ≤ elm (S 7) 39 + (-1) * elm (S' 7) 39 ∧ 0 ≤ elm (S' 7) 39 + (-1) * elm (S 7) 39) ∧ (0 ≤ elm (S 6) 0 + (-1) * elm (S' 6) 2 ∧ 0 ≤ elm (S' 6) 2 + (-1) * elm (S 6) 0) ∧ (0 ≤ elm (S 6) 0 + (-1) * elm (S' 6) 0 ∧ 0 ≤ elm (S' 6) 0 + (-1) * elm (S 6) 0) ∧ (0 ≤ elm (S 6) 1 + (-1) * elm (S' 6) 1 ∧ 0 ≤ elm (S' 6) 1 + (-1) * elm (S 6) 1) ∧ (0 ≤ elm (S 6) 3 + (-1) * elm (S' 6) 3 ∧ 0 ≤ elm (S' 6) 3 + (-1) * elm (S 6) 3) ∧ (ATp (S' 7) (S' 12) 0) ∧ (ATp (S' 7) (S' 12) 1) ∧ (ATp (S' 7) (S' 12) 2) ∧ (ATp (S' 7) (S' 12) 3) ∧ (HTp (S' 7) (S' 9) 0) ∧ (HTp (S' 7) (S' 9) 1) ∧ (HTp (S' 7) (S' 9) 2) ∧ (HTp (S' 7) (S' 9) 3)) (QB g ad 20) (FA ad 20)) 0 0 (FA ad 20) := by
  refine xmet cX12_copyShore "EbbWreckModel" (by decide) rfl (Nat.le_of_ble_eq_true rfl) (fun p e s m below meth c E hr hlk hml hQ ls hl => ?_)
  have hx := E.1
  have hb := E.2.1
  have hs : Sp ad 20 (FA ad 20) := Sp.fa hD
  have hl : lv_has ls 3 [(0, .ref (ad 0)), (1, .int 0), (2, .int 2)] := hl
  obtain ⟨f1, c2, b3⟩ := invM_7 hI
  obtain ⟨v4, ee5⟩ : ∃ z : Int32, f1 0 = z := ⟨_, rfl⟩
  have b6 : Bd v4 (0) (12) := (by rw [← ee5]; exact b3.1 0 (by decide))
  obtain ⟨v7, ee8⟩ : ∃ z : Int32, f1 20 = z := ⟨_, rfl⟩
  have b9 : Bd v7 (0) (12) := (by rw [← ee8]; exact b3.1 20 (by decide))
  obtain ⟨v10, ee11⟩ : ∃ z : Int32, f1 1 = z := ⟨_, rfl⟩
  have b12 : Bd v10 (0) (12) := (by rw [← ee11]; exact b3.2.1 1 (by decide))
  obtain ⟨v13, ee14⟩ : ∃ z : Int32, f1 21 = z := ⟨_, rfl⟩
  have b15 : Bd v13 (0) (12) := (by rw [← ee14]; exact b3.2.1 21 (by decide))
  obtain ⟨v16, ee17⟩ : ∃ z : Int32, f1 3 = z := ⟨_, rfl⟩
  have b18 : Bd v16 (0) (12) := (by rw [← ee17]; exact b3.2.2.2.1 3 (by decide))
  obtain ⟨v19, ee20⟩ : ∃ z : Int32, f1 23 = z := ⟨_, rfl⟩
  have b21 : Bd v19 (0) (12) := (by rw [← ee20]; exact b3.2.2.2.1 23 (by decide))
  obtain ⟨v22, ee23⟩ : ∃ z : Int32, f1 6 = z := ⟨_, rfl⟩
  have b24 : Bd v22 (0) (8) := (by rw [← ee23]; exact b3.2.2.2.2.1 6 (by decide))
  obtain ⟨v25, ee26⟩ : ∃ z : Int32, f1 26 = z := ⟨_, rfl⟩
  have b27 : Bd v25 (0) (8) := (by rw [← ee26]; exact b3.2.2.2.2.1 26 (by decide))
  obtain ⟨v28, ee29⟩ : ∃ z : Int32, f1 8 = z := ⟨_, rfl⟩
  have b30 : Bd v28 (0) (3) := (by rw [← ee29]; exact b3.2.2.2.2.2.2.1 8 (by decide))
  obtain ⟨v31, ee32⟩ : ∃ z : Int32, f1 28 = z := ⟨_, rfl⟩
  have b33 : Bd v31 (0) (3) := (by rw [← ee32]; exact b3.2.2.2.2.2.2.1 28 (by decide))
  obtain ⟨v34, ee35⟩ : ∃ z : Int32, f1 9 = z := ⟨_, rfl⟩
  have b36 : Bd v34 (0) (40) := (by rw [← ee35]; exact b3.2.2.2.2.2.2.2 9 (by decide))
  obtain ⟨v37, ee38⟩ : ∃ z : Int32, f1 29 = z := ⟨_, rfl⟩
  have b39 : Bd v37 (0) (40) := (by rw [← ee38]; exact b3.2.2.2.2.2.2.2 29 (by decide))
  obtain ⟨v40, ee41⟩ : ∃ z : Int32, f1 10 = z := ⟨_, rfl⟩
  have b42 : Bd v40 (0) (12) := (by rw [← ee41]; exact b3.1 10 (by decide))
  obtain ⟨v43, ee44⟩ : ∃ z : Int32, f1 11 = z := ⟨_, rfl⟩
  have b45 : Bd v43 (0) (12) := (by rw [← ee44]; exact b3.2.1 11 (by decide))
  obtain ⟨v46, ee47⟩ : ∃ z : Int32, f1 13 = z := ⟨_, rfl⟩
  have b48 : Bd v46 (0) (12) := (by rw [← ee47]; exact b3.2.2.2.1 13 (by decide))
  obtain ⟨v49, ee50⟩ : ∃ z : Int32, f1 16 = z := ⟨_, rfl⟩
  have b51 : Bd v49 (0) (8) := (by rw [← ee50]; exact b3.2.2.2.2.1 16 (by decide))
  obtain ⟨v52, ee53⟩ : ∃ z : Int32, f1 18 = z := ⟨_, rfl⟩
  have b54 : Bd v52 (0) (3) := (by rw [← ee53]; exact b3.2.2.2.2.2.2.1 18 (by decide))
  obtain ⟨v55, ee56⟩ : ∃ z : Int32, f1 19 = z := ⟨_, rfl⟩
  have b57 : Bd v55 (0) (40) := (by rw [← ee56]; exact b3.2.2.2.2.2.2.2 19 (by decide))
  obtain ⟨v58, ee59⟩ : ∃ z : Int32, f1 30 = z := ⟨_, rfl⟩
  have b60 : Bd v58 (0) (12) := (by rw [← ee59]; exact b3.1 30 (by decide))
  obtain ⟨v61, ee62⟩ : ∃ z : Int32, f1 31 = z := ⟨_, rfl⟩
  have b63 : Bd v61 (0) (12) := (by rw [← ee62]; exact b3.2.1 31 (by decide))
  obtain ⟨v64, ee65⟩ : ∃ z : Int32, f1 33 = z := ⟨_, rfl⟩
  have b66 : Bd v64 (0) (12) := (by rw [← ee65]; exact b3.2.2.2.1 33 (by decide))
  obtain ⟨v67, ee68⟩ : ∃ z : Int32, f1 36 = z := ⟨_, rfl⟩
  have b69 : Bd v67 (0) (8) := (by rw [← ee68]; exact b3.2.2.2.2.1 36 (by decide))
  obtain ⟨v70, ee71⟩ : ∃ z : Int32, f1 38 = z := ⟨_, rfl⟩
  have b72 : Bd v70 (0) (3) := (by rw [← ee71]; exact b3.2.2.2.2.2.2.1 38 (by decide))
  obtain ⟨v73, ee74⟩ : ∃ z : Int32, f1 39 = z := ⟨_, rfl⟩
  have b75 : Bd v73 (0) (40) := (by rw [← ee74]; exact b3.2.2.2.2.2.2.2 39 (by decide))
  obtain ⟨f76, c77, b78⟩ := invM_6 hI
  obtain ⟨v79, ee80⟩ : ∃ z : Int32, f76 0 = z := ⟨_, rfl⟩
  have b81 : Bd v79 (0) (40000) := (by rw [← ee80]; exact b78 0)
  obtain ⟨v82, ee83⟩ : ∃ z : Int32, f76 2 = z := ⟨_, rfl⟩
  have b84 : Bd v82 (0) (40000) := (by rw [← ee83]; exact b78 2)
  obtain ⟨v85, ee86⟩ : ∃ z : Int32, f76 1 = z := ⟨_, rfl⟩
  have b87 : Bd v85 (0) (40000) := (by rw [← ee86]; exact b78 1)
  obtain ⟨v88, ee89⟩ : ∃ z : Int32, f76 3 = z := ⟨_, rfl⟩
  have b90 : Bd v88 (0) (40000) := (by rw [← ee89]; exact b78 3)
  obtain ⟨f91, c92, b93⟩ := invM_12 hI
  obtain ⟨f94, c95, b96⟩ := invM_9 hI
  refine lv_aload_n hx hb dX12_copyShore_0 rfl (lv_at hl 0 rfl) ?_
  obtain ⟨v97, v98, v100, v102, v104, v105, w106, v107, v109, v110, v111, v112, v114, v116, v118, v120, v122, v123, v124, c125, b99, b101, b103, b108, b113, b115, b117, b119, b121⟩ := invM_0 hI
  have c125 : S 0 = .inr (12, [.int v97, .ref (ad 1), .ref (ad 2), .ref (ad 3), .ref (ad 4), .ref (ad 5), .int v98, .int v100, .int v102, .int v104, .int v105, .long w106, .int v107, .int v109, .int v110, .int v111, .ref (ad 6), .ref (ad 7), .ref (ad 8), .ref (ad 9), .ref (ad 10), .ref (ad 11), .ref (ad 12), .ref (ad 13), .ref (ad 14), .ref (ad 15), .int v112, .int v114, .ref (ad 16), .int v116, .int v118, .int v120, .int v122, .int v123, .ref (ad 17), .ref (ad 18), .int v124, .ref (ad 19)]) := c125
  refine xget E hQ 0 (by decide) c125 rfl 16 (by decide) q1484 rfl dX12_copyShore_1 ?_
  refine lv_iconst (v := 1) hx hb dX12_copyShore_4 (by decide) ?_
  refine lv_iload_n hx hb dX12_copyShore_5 rfl (lv_at hl 1 rfl) ?_
  refine lv_iload_n hx hb dX12_copyShore_6 rfl (lv_at hl 2 rfl) ?_
  refine xcSv E hs hQ hml hl.1 (uCopyRow l g ad 20 hD S 6 (by decide) 5 (by decide) f76 1 0 2 (by decide) (by decide) (by decide) c77) mX12_copyRow q1743 rfl ⟨(Nat.le_of_ble_eq_true rfl), (Nat.le_of_ble_eq_true rfl)⟩ ⟨(Nat.le_of_ble_eq_true rfl), (Nat.le_of_ble_eq_true rfl)⟩ (Nat.le_of_ble_eq_true rfl) rfl dX12_copyShore_7 (fun S126 H locs eS126 hQ => ?_)
  have hI := invM_up_6 hI eS126 ⟨_, rfl, cp_b b78⟩
  have b128 : ∀ j, Bd ((cpF f76 1 0 2 1) j) (0) (40000) := cp_b b78
  have c127 : S126 6 = .inl (g.2 0, 5, .inl (cpF f76 1 0 2 1)) := up_at eS126 rfl
  refine lv_aload_n hx hb dX12_copyShore_10 rfl (lv_at hl 0 rfl) ?_
  have c129 : S126 0 = .inr (12, [.int v97, .ref (ad 1), .ref (ad 2), .ref (ad 3), .ref (ad 4), .ref (ad 5), .int v98, .int v100, .int v102, .int v104, .int v105, .long w106, .int v107, .int v109, .int v110, .int v111, .ref (ad 6), .ref (ad 7), .ref (ad 8), .ref (ad 9), .ref (ad 10), .ref (ad 11), .ref (ad 12), .ref (ad 13), .ref (ad 14), .ref (ad 15), .int v112, .int v114, .ref (ad 16), .int v116, .int v118, .int v120, .int v122, .int v123, .ref (ad 17), .ref (ad 18), .int v124, .ref (ad 19)]) := (up_ne eS126 (by decide) c125)
  refine xget E hQ 0 (by decide) c129 rfl 17 (by decide) q1485 rfl dX12_copyShore_11 ?_
  refine lv_bipush (v := 10) hx hb dX12_copyShore_14 (by decide) ?_
  refine lv_iload_n hx hb dX12_copyShore_16 rfl (lv_at hl 1 rfl) ?_
  refine lv_iload_n hx hb dX12_copyShore_17 rfl (lv_at hl 2 rfl) ?_
  have c130 : S126 7 = .inl (g.2 0, 50, .inl f1) := (up_ne eS126 (by decide) c2)
  refine xcSv E hs hQ hml hl.1 (uCopyRow l g ad 20 hD S126 7 (by decide) 50 (by decide) f1 10 0 2 (by decide) (by decide) (by decide) c130) mX12_copyRow q1743 rfl ⟨(Nat.le_of_ble_eq_true rfl), (Nat.le_of_ble_eq_true rfl)⟩ ⟨(Nat.le_of_ble_eq_true rfl), (Nat.le_of_ble_eq_true rfl)⟩ (Nat.le_of_ble_eq_true rfl) rfl dX12_copyShore_18 (fun S131 H locs eS131 hQ => ?_)
  have hI := invM_up_7 hI eS131 ⟨_, rfl, ⟨cp_m (q := 1) b3.1 (by decide), cp_m (q := 1) b3.2.1 (by decide), cp_m (q := 1) b3.2.2.1 (by decide), cp_m (q := 1) b3.2.2.2.1 (by decide), cp_m (q := 1) b3.2.2.2.2.1 (by decide), cp_m (q := 1) b3.2.2.2.2.2.1 (by decide), cp_m (q := 1) b3.2.2.2.2.2.2.1 (by decide), cp_m (q := 1) b3.2.2.2.2.2.2.2 (by decide)⟩⟩
  have b133 : (∀ j, j % 10 = 0 → Bd ((cpF f1 10 0 2 10) j) (0) (12)) ∧ (∀ j, j % 10 = 1 → Bd ((cpF f1 10 0 2 10) j) (0) (12)) ∧ (∀ j, j % 10 = 2 → Bd ((cpF f1 10 0 2 10) j) (0) (6)) ∧ (∀ j, j % 10 = 3 → Bd ((cpF f1 10 0 2 10) j) (0) (12)) ∧ (∀ j, j % 10 = 6 → Bd ((cpF f1 10 0 2 10) j) (0) (8)) ∧ (∀ j, j % 10 = 7 → Bd ((cpF f1 10 0 2 10) j) (0) (6)) ∧ (∀ j, j % 10 = 8 → Bd ((cpF f1 10 0 2 10) j) (0) (3)) ∧ (∀ j, j % 10 = 9 → Bd ((cpF f1 10 0 2 10) j) (0) (40)) := ⟨cp_m (q := 1) b3.1 (by decide), cp_m (q := 1) b3.2.1 (by decide), cp_m (q := 1) b3.2.2.1 (by decide), cp_m (q := 1) b3.2.2.2.1 (by decide), cp_m (q := 1) b3.2.2.2.2.1 (by decide), cp_m (q := 1) b3.2.2.2.2.2.1 (by decide), cp_m (q := 1) b3.2.2.2.2.2.2.1 (by decide), cp_m (q := 1) b3.2.2.2.2.2.2.2 (by decide)⟩
  have c132 : S131 7 = .inl (g.2 0, 50, .inl (cpF f1 10 0 2 10)) := up_at eS131 rfl
  refine lv_aload_n hx hb dX12_copyShore_21 rfl (lv_at hl 0 rfl) ?_
  have c134 : S131 0 = .inr (12, [.int v97, .ref (ad 1), .ref (ad 2), .ref (ad 3), .ref (ad 4), .ref (ad 5), .int v98, .int v100, .int v102, .int v104, .int v105, .long w106, .int v107, .int v109, .int v110, .int v111, .ref (ad 6), .ref (ad 7), .ref (ad 8), .ref (ad 9), .ref (ad 10), .ref (ad 11), .ref (ad 12), .ref (ad 13), .ref (ad 14), .ref (ad 15), .int v112, .int v114, .ref (ad 16), .int v116, .int v118, .int v120, .int v122, .int v123, .ref (ad 17), .ref (ad 18), .int v124, .ref (ad 19)]) := (up_ne eS131 (by decide) c129)
  refine xget E hQ 0 (by decide) c134 rfl 18 (by decide) q1486 rfl dX12_copyShore_22 ?_
  refine lv_bipush (v := 24) hx hb dX12_copyShore_25 (by decide) ?_
  refine lv_iload_n hx hb dX12_copyShore_27 rfl (lv_at hl 1 rfl) ?_
  refine lv_iload_n hx hb dX12_copyShore_28 rfl (lv_at hl 2 rfl) ?_
  obtain ⟨f135, c136⟩ := invM_8 hI
  refine xcSv E hs hQ hml hl.1 (uCopyRow l g ad 20 hD S131 8 (by decide) 120 (by decide) f135 24 0 2 (by decide) (by decide) (by decide) c136) mX12_copyRow q1743 rfl ⟨(Nat.le_of_ble_eq_true rfl), (Nat.le_of_ble_eq_true rfl)⟩ ⟨(Nat.le_of_ble_eq_true rfl), (Nat.le_of_ble_eq_true rfl)⟩ (Nat.le_of_ble_eq_true rfl) rfl dX12_copyShore_29 (fun S138 H locs eS138 hQ => ?_)
  have hI := invM_up_8 hI eS138 ⟨_, rfl⟩
  have c139 : S138 8 = .inl (g.2 0, 120, .inl (cpF f135 24 0 2 24)) := up_at eS138 rfl
  refine lv_aload_n hx hb dX12_copyShore_32 rfl (lv_at hl 0 rfl) ?_
  have c140 : S138 0 = .inr (12, [.int v97, .ref (ad 1), .ref (ad 2), .ref (ad 3), .ref (ad 4), .ref (ad 5), .int v98, .int v100, .int v102, .int v104, .int v105, .long w106, .int v107, .int v109, .int v110, .int v111, .ref (ad 6), .ref (ad 7), .ref (ad 8), .ref (ad 9), .ref (ad 10), .ref (ad 11), .ref (ad 12), .ref (ad 13), .ref (ad 14), .ref (ad 15), .int v112, .int v114, .ref (ad 16), .int v116, .int v118, .int v120, .int v122, .int v123, .ref (ad 17), .ref (ad 18), .int v124, .ref (ad 19)]) := (up_ne eS138 (by decide) c134)
  refine xget E hQ 0 (by decide) c140 rfl 19 (by decide) q1487 rfl dX12_copyShore_33 ?_
  refine lv_bipush (v := 24) hx hb dX12_copyShore_36 (by decide) ?_
  refine lv_iload_n hx hb dX12_copyShore_38 rfl (lv_at hl 1 rfl) ?_
  refine lv_iload_n hx hb dX12_copyShore_39 rfl (lv_at hl 2 rfl) ?_
  have c141 : S138 9 = .inl (g.2 0, 120, .inl f94) := (up_ne eS138 (by decide) (up_ne eS131 (by decide) (up_ne eS126 (by decide) c95)))
  refine xcSv E hs hQ hml hl.1 (uCopyRow l g ad 20 hD S138 9 (by decide) 120 (by decide) f94 24 0 2 (by decide) (by decide) (by decide) c141) mX12_copyRow q1743 rfl ⟨(Nat.le_of_ble_eq_true rfl), (Nat.le_of_ble_eq_true rfl)⟩ ⟨(Nat.le_of_ble_eq_true rfl), (Nat.le_of_ble_eq_true rfl)⟩ (Nat.le_of_ble_eq_true rfl) rfl dX12_copyShore_40 (fun S142 H locs eS142 hQ => ?_)
  have hI := invM_up_9 hI eS142 ⟨_, rfl, ⟨cp_m (q := 8) b96.1 (by decide), cp_m (q := 8) b96.2 (by decide)⟩⟩
  have b144 : (∀ j, j % 3 = 1 → Bd ((cpF f94 24 0 2 24) j) (0) (11)) ∧ (∀ j, j % 3 = 2 → Bd ((cpF f94 24 0 2 24) j) (0) (99)) := ⟨cp_m (q := 8) b96.1 (by decide), cp_m (q := 8) b96.2 (by decide)⟩
  have c143 : S142 9 = .inl (g.2 0, 120, .inl (cpF f94 24 0 2 24)) := up_at eS142 rfl
  refine lv_aload_n hx hb dX12_copyShore_43 rfl (lv_at hl 0 rfl) ?_
  have c145 : S142 0 = .inr (12, [.int v97, .ref (ad 1), .ref (ad 2), .ref (ad 3), .ref (ad 4), .ref (ad 5), .int v98, .int v100, .int v102, .int v104, .int v105, .long w106, .int v107, .int v109, .int v110, .int v111, .ref (ad 6), .ref (ad 7), .ref (ad 8), .ref (ad 9), .ref (ad 10), .ref (ad 11), .ref (ad 12), .ref (ad 13), .ref (ad 14), .ref (ad 15), .int v112, .int v114, .ref (ad 16), .int v116, .int v118, .int v120, .int v122, .int v123, .ref (ad 17), .ref (ad 18), .int v124, .ref (ad 19)]) := (up_ne eS142 (by decide) c140)
  refine xget E hQ 0 (by decide) c145 rfl 20 (by decide) q1488 rfl dX12_copyShore_44 ?_
  refine lv_bipush (v := 24) hx hb dX12_copyShore_47 (by decide) ?_
  refine lv_iload_n hx hb dX12_copyShore_49 rfl (lv_at hl 1 rfl) ?_
  refine lv_iload_n hx hb dX12_copyShore_50 rfl (lv_at hl 2 rfl) ?_
  obtain ⟨f146, c147⟩ := invM_10 hI
  refine xcSv E hs hQ hml hl.1 (uCopyRow l g ad 20 hD S142 10 (by decide) 120 (by decide) f146 24 0 2 (by decide) (by decide) (by decide) c147) mX12_copyRow q1743 rfl ⟨(Nat.le_of_ble_eq_true rfl), (Nat.le_of_ble_eq_true rfl)⟩ ⟨(Nat.le_of_ble_eq_true rfl), (Nat.le_of_ble_eq_true rfl)⟩ (Nat.le_of_ble_eq_true rfl) rfl dX12_copyShore_51 (fun S149 H locs eS149 hQ => ?_)
  have hI := invM_up_10 hI eS149 ⟨_, rfl⟩
  have c150 : S149 10 = .inl (g.2 0, 120, .inl (cpF f146 24 0 2 24)) := up_at eS149 rfl
  refine lv_aload_n hx hb dX12_copyShore_54 rfl (lv_at hl 0 rfl) ?_
  have c151 : S149 0 = .inr (12, [.int v97, .ref (ad 1), .ref (ad 2), .ref (ad 3), .ref (ad 4), .ref (ad 5), .int v98, .int v100, .int v102, .int v104, .int v105, .long w106, .int v107, .int v109, .int v110, .int v111, .ref (ad 6), .ref (ad 7), .ref (ad 8), .ref (ad 9), .ref (ad 10), .ref (ad 11), .ref (ad 12), .ref (ad 13), .ref (ad 14), .ref (ad 15), .int v112, .int v114, .ref (ad 16), .int v116, .int v118, .int v120, .int v122, .int v123, .ref (ad 17), .ref (ad 18), .int v124, .ref (ad 19)]) := (up_ne eS149 (by decide) c145)
  refine xget E hQ 0 (by decide) c151 rfl 21 (by decide) q1489 rfl dX12_copyShore_55 ?_
  refine lv_iconst (v := 3) hx hb dX12_copyShore_58 (by decide) ?_
  refine lv_iload_n hx hb dX12_copyShore_59 rfl (lv_at hl 1 rfl) ?_
  refine lv_iload_n hx hb dX12_copyShore_60 rfl (lv_at hl 2 rfl) ?_
  obtain ⟨f152, c153, b154⟩ := invM_11 hI
  refine xcSv E hs hQ hml hl.1 (uCopyRow l g ad 20 hD S149 11 (by decide) 15 (by decide) f152 3 0 2 (by decide) (by decide) (by decide) c153) mX12_copyRow q1743 rfl ⟨(Nat.le_of_ble_eq_true rfl), (Nat.le_of_ble_eq_true rfl)⟩ ⟨(Nat.le_of_ble_eq_true rfl), (Nat.le_of_ble_eq_true rfl)⟩ (Nat.le_of_ble_eq_true rfl) rfl dX12_copyShore_61 (fun S155 H locs eS155 hQ => ?_)
  have hI := invM_up_11 hI eS155 ⟨_, rfl, cp_b b154⟩
  have b157 : ∀ j, Bd ((cpF f152 3 0 2 3) j) (0) (11) := cp_b b154
  have c156 : S155 11 = .inl (g.2 0, 15, .inl (cpF f152 3 0 2 3)) := up_at eS155 rfl
  refine lv_aload_n hx hb dX12_copyShore_64 rfl (lv_at hl 0 rfl) ?_
  have c158 : S155 0 = .inr (12, [.int v97, .ref (ad 1), .ref (ad 2), .ref (ad 3), .ref (ad 4), .ref (ad 5), .int v98, .int v100, .int v102, .int v104, .int v105, .long w106, .int v107, .int v109, .int v110, .int v111, .ref (ad 6), .ref (ad 7), .ref (ad 8), .ref (ad 9), .ref (ad 10), .ref (ad 11), .ref (ad 12), .ref (ad 13), .ref (ad 14), .ref (ad 15), .int v112, .int v114, .ref (ad 16), .int v116, .int v118, .int v120, .int v122, .int v123, .ref (ad 17), .ref (ad 18), .int v124, .ref (ad 19)]) := (up_ne eS155 (by decide) c151)
  refine xget E hQ 0 (by decide) c158 rfl 22 (by decide) q1490 rfl dX12_copyShore_65 ?_
  refine lv_sipush (v := 160) hx hb dX12_copyShore_68 (by decide) ?_
  refine lv_iload_n hx hb dX12_copyShore_71 rfl (lv_at hl 1 rfl) ?_
  refine lv_iload_n hx hb dX12_copyShore_72 rfl (lv_at hl 2 rfl) ?_
  have c159 : S155 12 = .inl (g.2 0, 800, .inl f91) := (up_ne eS155 (by decide) (up_ne eS149 (by decide) (up_ne eS142 (by decide) (up_ne eS138 (by decide) (up_ne eS131 (by decide) (up_ne eS126 (by decide) c92))))))
  refine xcSv E hs hQ hml hl.1 (uCopyRow l g ad 20 hD S155 12 (by decide) 800 (by decide) f91 160 0 2 (by decide) (by decide) (by decide) c159) mX12_copyRow q1743 rfl ⟨(Nat.le_of_ble_eq_true rfl), (Nat.le_of_ble_eq_true rfl)⟩ ⟨(Nat.le_of_ble_eq_true rfl), (Nat.le_of_ble_eq_true rfl)⟩ (Nat.le_of_ble_eq_true rfl) rfl dX12_copyShore_73 (fun S160 H locs eS160 hQ => ?_)
  have hI := invM_up_12 hI eS160 ⟨_, rfl, ⟨cp_m (q := 40) b93.1 (by decide), cp_m (q := 40) b93.2 (by decide)⟩⟩
  have b162 : (∀ j, j % 4 = 1 → Bd ((cpF f91 160 0 2 160) j) (0) (7)) ∧ (∀ j, j % 4 = 2 → Bd ((cpF f91 160 0 2 160) j) (0) (400)) := ⟨cp_m (q := 40) b93.1 (by decide), cp_m (q := 40) b93.2 (by decide)⟩
  have c161 : S160 12 = .inl (g.2 0, 800, .inl (cpF f91 160 0 2 160)) := up_at eS160 rfl
  have q163 : elm (S 7) 0 = v4.toInt := (elm_of c2 0).trans (congrArg Int32.toInt (ee5))
  have c164 : S160 7 = .inl (g.2 0, 50, .inl (cpF f1 10 0 2 10)) := (up_ne eS160 (by decide) (up_ne eS155 (by decide) (up_ne eS149 (by decide) (up_ne eS142 (by decide) (up_ne eS138 (by decide) c132)))))
  have q165 : elm (S160 7) 20 = v4.toInt := (elm_of c164 20).trans (congrArg Int32.toInt (((show cpF f1 10 0 2 10 20 = f1 0 from rfl).trans (ee5))))
  have q166 : elm (S 7) 1 = v10.toInt := (elm_of c2 1).trans (congrArg Int32.toInt (ee11))
  have q167 : elm (S160 7) 21 = v10.toInt := (elm_of c164 21).trans (congrArg Int32.toInt (((show cpF f1 10 0 2 10 21 = f1 1 from rfl).trans (ee11))))
  have q168 : elm (S 7) 3 = v16.toInt := (elm_of c2 3).trans (congrArg Int32.toInt (ee17))
  have q169 : elm (S160 7) 23 = v16.toInt := (elm_of c164 23).trans (congrArg Int32.toInt (((show cpF f1 10 0 2 10 23 = f1 3 from rfl).trans (ee17))))
  have q170 : elm (S 7) 6 = v22.toInt := (elm_of c2 6).trans (congrArg Int32.toInt (ee23))
  have q171 : elm (S160 7) 26 = v22.toInt := (elm_of c164 26).trans (congrArg Int32.toInt (((show cpF f1 10 0 2 10 26 = f1 6 from rfl).trans (ee23))))
  have q172 : elm (S 7) 8 = v28.toInt := (elm_of c2 8).trans (congrArg Int32.toInt (ee29))
  have q173 : elm (S160 7) 28 = v28.toInt := (elm_of c164 28).trans (congrArg Int32.toInt (((show cpF f1 10 0 2 10 28 = f1 8 from rfl).trans (ee29))))
  have q174 : elm (S 7) 9 = v34.toInt := (elm_of c2 9).trans (congrArg Int32.toInt (ee35))
  have q175 : elm (S160 7) 29 = v34.toInt := (elm_of c164 29).trans (congrArg Int32.toInt (((show cpF f1 10 0 2 10 29 = f1 9 from rfl).trans (ee35))))
  have q176 : elm (S160 7) 0 = v4.toInt := (elm_of c164 0).trans (congrArg Int32.toInt (((show cpF f1 10 0 2 10 0 = f1 0 from rfl).trans (ee5))))
  have q177 : elm (S160 7) 1 = v10.toInt := (elm_of c164 1).trans (congrArg Int32.toInt (((show cpF f1 10 0 2 10 1 = f1 1 from rfl).trans (ee11))))
  have q178 : elm (S160 7) 3 = v16.toInt := (elm_of c164 3).trans (congrArg Int32.toInt (((show cpF f1 10 0 2 10 3 = f1 3 from rfl).trans (ee17))))
  have q179 : elm (S160 7) 6 = v22.toInt := (elm_of c164 6).trans (congrArg Int32.toInt (((show cpF f1 10 0 2 10 6 = f1 6 from rfl).trans (ee23))))
  have q180 : elm (S160 7) 8 = v28.toInt := (elm_of c164 8).trans (congrArg Int32.toInt (((show cpF f1 10 0 2 10 8 = f1 8 from rfl).trans (ee29))))
  have q181 : elm (S160 7) 9 = v34.toInt := (elm_of c164 9).trans (congrArg Int32.toInt (((show cpF f1 10 0 2 10 9 = f1 9 from rfl).trans (ee35))))
  have q182 : elm (S 7) 10 = v40.toInt := (elm_of c2 10).trans (congrArg Int32.toInt (ee41))
  have q183 : elm (S160 7) 10 = v40.toInt := (elm_of c164 10).trans (congrArg Int32.toInt (((show cpF f1 10 0 2 10 10 = f1 10 from rfl).trans (ee41))))
  have q184 : elm (S 7) 11 = v43.toInt := (elm_of c2 11).trans (congrArg Int32.toInt (ee44))
  have q185 : elm (S160 7) 11 = v43.toInt := (elm_of c164 11).trans (congrArg Int32.toInt (((show cpF f1 10 0 2 10 11 = f1 11 from rfl).trans (ee44))))
  have q186 : elm (S 7) 13 = v46.toInt := (elm_of c2 13).trans (congrArg Int32.toInt (ee47))
  have q187 : elm (S160 7) 13 = v46.toInt := (elm_of c164 13).trans (congrArg Int32.toInt (((show cpF f1 10 0 2 10 13 = f1 13 from rfl).trans (ee47))))
  have q188 : elm (S 7) 16 = v49.toInt := (elm_of c2 16).trans (congrArg Int32.toInt (ee50))
  have q189 : elm (S160 7) 16 = v49.toInt := (elm_of c164 16).trans (congrArg Int32.toInt (((show cpF f1 10 0 2 10 16 = f1 16 from rfl).trans (ee50))))
  have q190 : elm (S 7) 18 = v52.toInt := (elm_of c2 18).trans (congrArg Int32.toInt (ee53))
  have q191 : elm (S160 7) 18 = v52.toInt := (elm_of c164 18).trans (congrArg Int32.toInt (((show cpF f1 10 0 2 10 18 = f1 18 from rfl).trans (ee53))))
  have q192 : elm (S 7) 19 = v55.toInt := (elm_of c2 19).trans (congrArg Int32.toInt (ee56))
  have q193 : elm (S160 7) 19 = v55.toInt := (elm_of c164 19).trans (congrArg Int32.toInt (((show cpF f1 10 0 2 10 19 = f1 19 from rfl).trans (ee56))))
  have q194 : elm (S 7) 30 = v58.toInt := (elm_of c2 30).trans (congrArg Int32.toInt (ee59))
  have q195 : elm (S160 7) 30 = v58.toInt := (elm_of c164 30).trans (congrArg Int32.toInt (((show cpF f1 10 0 2 10 30 = f1 30 from rfl).trans (ee59))))
  have q196 : elm (S 7) 31 = v61.toInt := (elm_of c2 31).trans (congrArg Int32.toInt (ee62))
  have q197 : elm (S160 7) 31 = v61.toInt := (elm_of c164 31).trans (congrArg Int32.toInt (((show cpF f1 10 0 2 10 31 = f1 31 from rfl).trans (ee62))))
  have q198 : elm (S 7) 33 = v64.toInt := (elm_of c2 33).trans (congrArg Int32.toInt (ee65))
  have q199 : elm (S160 7) 33 = v64.toInt := (elm_of c164 33).trans (congrArg Int32.toInt (((show cpF f1 10 0 2 10 33 = f1 33 from rfl).trans (ee65))))
  have q200 : elm (S 7) 36 = v67.toInt := (elm_of c2 36).trans (congrArg Int32.toInt (ee68))
  have q201 : elm (S160 7) 36 = v67.toInt := (elm_of c164 36).trans (congrArg Int32.toInt (((show cpF f1 10 0 2 10 36 = f1 36 from rfl).trans (ee68))))
  have q202 : elm (S 7) 38 = v70.toInt := (elm_of c2 38).trans (congrArg Int32.toInt (ee71))
  have q203 : elm (S160 7) 38 = v70.toInt := (elm_of c164 38).trans (congrArg Int32.toInt (((show cpF f1 10 0 2 10 38 = f1 38 from rfl).trans (ee71))))
  have q204 : elm (S 7) 39 = v73.toInt := (elm_of c2 39).trans (congrArg Int32.toInt (ee74))
  have q205 : elm (S160 7) 39 = v73.toInt := (elm_of c164 39).trans (congrArg Int32.toInt (((show cpF f1 10 0 2 10 39 = f1 39 from rfl).trans (ee74))))
  have q206 : elm (S 6) 0 = v79.toInt := (elm_of c77 0).trans (congrArg Int32.toInt (ee80))
  have c207 : S160 6 = .inl (g.2 0, 5, .inl (cpF f76 1 0 2 1)) := (up_ne eS160 (by decide) (up_ne eS155 (by decide) (up_ne eS149 (by decide) (up_ne eS142 (by decide) (up_ne eS138 (by decide) (up_ne eS131 (by decide) c127))))))
  have q208 : elm (S160 6) 2 = v79.toInt := (elm_of c207 2).trans (congrArg Int32.toInt (((show cpF f76 1 0 2 1 2 = f76 0 from rfl).trans (ee80))))
  have q209 : elm (S160 6) 0 = v79.toInt := (elm_of c207 0).trans (congrArg Int32.toInt (((show cpF f76 1 0 2 1 0 = f76 0 from rfl).trans (ee80))))
  have q210 : elm (S 6) 1 = v85.toInt := (elm_of c77 1).trans (congrArg Int32.toInt (ee86))
  have q211 : elm (S160 6) 1 = v85.toInt := (elm_of c207 1).trans (congrArg Int32.toInt (((show cpF f76 1 0 2 1 1 = f76 1 from rfl).trans (ee86))))
  have q212 : elm (S 6) 3 = v88.toInt := (elm_of c77 3).trans (congrArg Int32.toInt (ee89))
  have q213 : elm (S160 6) 3 = v88.toInt := (elm_of c207 3).trans (congrArg Int32.toInt (((show cpF f76 1 0 2 1 3 = f76 3 from rfl).trans (ee89))))
  have c214 : S160 9 = .inl (g.2 0, 120, .inl (cpF f94 24 0 2 24)) := (up_ne eS160 (by decide) (up_ne eS155 (by decide) (up_ne eS149 (by decide) c143)))
  exact xrv E hr hlk hQ (⟨hI, (up_o (up_o (up_o (up_o (up_o (up_o (up_o o_refl eS126 (by decide)) eS131 (by decide)) eS138 (by decide)) eS142 (by decide)) eS149 (by decide)) eS155 (by decide)) eS160 (by decide)), ⟨by omega, by omega⟩, ⟨by omega, by omega⟩, ⟨by omega, by omega⟩, ⟨by omega, by omega⟩, ⟨by omega, by omega⟩, ⟨by omega, by omega⟩, ⟨by omega, by omega⟩, ⟨by omega, by omega⟩, ⟨by omega, by omega⟩, ⟨by omega, by omega⟩, ⟨by omega, by omega⟩, ⟨by omega, by omega⟩, ⟨by omega, by omega⟩, ⟨by omega, by omega⟩, ⟨by omega, by omega⟩, ⟨by omega, by omega⟩, ⟨by omega, by omega⟩, ⟨by omega, by omega⟩, ⟨by omega, by omega⟩, ⟨by omega, by omega⟩, ⟨by omega, by omega⟩, ⟨by omega, by omega⟩, ⟨by omega, by omega⟩, ⟨by omega, by omega⟩, ⟨by omega, by omega⟩, ⟨by omega, by omega⟩, ⟨by omega, by omega⟩, ⟨by omega, by omega⟩, (at_cpo c2 c92 c164 c161 b3.2.2.2.2.2.2.2 (by decide) hAT0), (at_cpo c2 c92 c164 c161 b3.2.2.2.2.2.2.2 (by decide) hAT1), (at_cpb c2 c92 c164 c161 b3.2.2.2.2.2.2.2 hAT0), (at_cpo c2 c92 c164 c161 b3.2.2.2.2.2.2.2 (by decide) hAT3), (ht_cpo c2 c95 c164 c214 b3.2.2.2.2.1 (by decide) hHT0), (ht_cpo c2 c95 c164 c214 b3.2.2.2.2.1 (by decide) hHT1), (ht_cpb c2 c95 c164 c214 b3.2.2.2.2.1 hHT0), (ht_cpo c2 c95 c164 c214 b3.2.2.2.2.1 (by decide) hHT3)⟩) dX12_copyShore_76
set_option maxHeartbeats 4000000 in
set_option maxRecDepth 100000 in
theorem gX12_copyShore_0_3 (l : Launch) (g : GG) (ad : Nat → Nat) (hD : Dj ad 20) (S : SS) (hI : InvM g ad S) (hAT0 : ATp (S 7) (S 12) 0) (hAT1 : ATp (S 7) (S 12) 1) (hAT2 : ATp (S 7) (S 12) 2) (hAT3 : ATp (S 7) (S 12) 3) (hHT0 : HTp (S 7) (S 9) 0) (hHT1 : HTp (S 7) (S 9) 1) (hHT2 : HTp (S 7) (S 9) 2) (hHT3 : HTp (S 7) (S 9) 3) : Met l yX12_copyShore (wG (.code yX12_copyShore cX12_copyShore 3 none)) (Rm 1) (XPre g ad 20 S [.ref (ad 0), .int 0, .int 3]) (va_Qv (fun S' => InvM g ad S' ∧ (∀ j, j ∉ ([6, 7, 8, 9, 10, 11, 12] : List Nat) → S' j = S j) ∧ (0 ≤ elm (S 7) 0 + (-1) * elm (S' 7) 30 ∧ 0 ≤ elm (S' 7) 30 + (-1) * elm (S 7) 0) ∧ (0 ≤ elm (S 7) 1 + (-1) * elm (S' 7) 31 ∧ 0 ≤ elm (S' 7) 31 + (-1) * elm (S 7) 1) ∧ (0 ≤ elm (S 7) 3 + (-1) * elm (S' 7) 33 ∧ 0 ≤ elm (S' 7) 33 + (-1) * elm (S 7) 3) ∧ (0 ≤ elm (S 7) 6 + (-1) * elm (S' 7) 36 ∧ 0 ≤ elm (S' 7) 36 + (-1) * elm (S 7) 6) ∧ (0 ≤ elm (S 7) 8 + (-1) * elm (S' 7) 38 ∧ 0 ≤ elm (S' 7) 38 + (-1) * elm (S 7) 8) ∧ (0 ≤ elm (S 7) 9 + (-1) * elm (S' 7) 39 ∧ 0 ≤ elm (S' 7) 39 + (-1) * elm (S 7) 9) ∧ (0 ≤ elm (S 7) 0 + (-1) * elm (S' 7) 0 ∧ 0 ≤ elm (S' 7) 0 + (-1) * elm (S 7) 0) ∧ (0 ≤ elm (S 7) 1 + (-1) * elm (S' 7) 1 ∧ 0 ≤ elm (S' 7) 1 + (-1) * elm (S 7) 1) ∧ (0 ≤ elm (S 7) 3 + (-1) * elm (S' 7) 3 ∧ 0 ≤ elm (S' 7) 3 + (-1) * elm (S 7) 3) ∧ (0 ≤ elm (S 7) 6 + (-1) * elm (S' 7) 6 ∧ 0 ≤ elm (S' 7) 6 + (-1) * elm (S 7) 6) ∧ (0 ≤ elm (S 7) 8 + (-1) * elm (S' 7) 8 ∧ 0 ≤ elm (S' 7) 8 + (-1) * elm (S 7) 8) ∧ (0 ≤ elm (S 7) 9 + (-1) * elm (S' 7) 9 ∧ 0 ≤ elm (S' 7) 9 + (-1) * elm (S 7) 9) ∧ (0 ≤ elm (S 7) 10 + (-1) * elm (S' 7) 10 ∧ 0 ≤ elm (S' 7) 10 + (-1) * elm (S 7) 10) ∧ (0 ≤ elm (S 7) 11 + (-1) * elm (S' 7) 11 ∧ 0 ≤ elm (S' 7) 11 + (-1) * elm (S 7) 11) ∧ (0 ≤ elm (S 7) 13 + (-1) * elm (S' 7) 13 ∧ 0 ≤ elm (S' 7) 13 + (-1) * elm (S 7) 13) ∧ (0 ≤ elm (S 7) 16 + (-1) * elm (S' 7) 16 ∧ 0 ≤ elm (S' 7) 16 + (-1) * elm (S 7) 16) ∧ (0 ≤ elm (S 7) 18 + (-1) * elm (S' 7) 18 ∧ 0 ≤ elm (S' 7) 18 + (-1) * elm (S 7) 18) ∧ (0 ≤ elm (S 7) 19 + (-1) * elm (S' 7) 19 ∧ 0 ≤ elm (S' 7) 19 + (-1) * elm (S 7) 19) ∧ (0 ≤ elm (S 7) 20 + (-1) * elm (S' 7) 20 ∧ 0 ≤ elm (S' 7) 20 + (-1) * elm (S 7) 20) ∧ (0 ≤ elm (S 7) 21 + (-1) * elm (S' 7) 21 ∧ 0 ≤ elm (S' 7) 21 + (-1) * elm (S 7) 21) ∧ (0 ≤ elm (S 7) 23 + (-1) * elm (S' 7) 23 ∧ 0 ≤ elm (S' 7) 23 + (-1) * elm (S 7) 23) ∧ (0 ≤ elm (S 7) 26 + (-1) * elm (S' 7) 26 ∧ 0 ≤ elm (S' 7) 26 + (-1) * elm (S 7) 26) ∧ (0 ≤ elm (S 7) 28 + (-1) * elm (S' 7) 28 ∧ 0 ≤ elm (S' 7) 28 + (-1) * elm (S 7) 28) ∧ (0 ≤ elm (S 7) 29 + (-1) * elm (S' 7) 29 ∧ 0 ≤ elm (S' 7) 29 + (-1) * elm (S 7) 29) ∧ (0 ≤ elm (S 6) 0 + (-1) * elm (S' 6) 3 ∧ 0 ≤ elm (S' 6) 3 + (-1) * elm (S 6) 0) ∧ (0 ≤ elm (S 6) 0 + (-1) * elm (S' 6) 0 ∧ 0 ≤ elm (S' 6) 0 + (-1) * elm (S 6) 0) ∧ (0 ≤ elm (S 6) 1 + (-1) * elm (S' 6) 1 ∧ 0 ≤ elm (S' 6) 1 + (-1) * elm (S 6) 1) ∧ (0 ≤ elm (S 6) 2 + (-1) * elm (S' 6) 2 ∧ 0 ≤ elm (S' 6) 2 + (-1) * elm (S 6) 2) ∧ (ATp (S' 7) (S' 12) 0) ∧ (ATp (S' 7) (S' 12) 1) ∧ (ATp (S' 7) (S' 12) 2) ∧ (ATp (S' 7) (S' 12) 3) ∧ (HTp (S' 7) (S' 9) 0) ∧ (HTp (S' 7) (S' 9) 1) ∧ (HTp (S' 7) (S' 9) 2) ∧ (HTp (S' 7) (S' 9) 3)) (QB g ad 20) (FA ad 20)) 0 0 (FA ad 20) := by
  refine xmet cX12_copyShore "EbbWreckModel" (by decide) rfl (Nat.le_of_ble_eq_true rfl) (fun p e s m below meth c E hr hlk hml hQ ls hl => ?_)
  have hx := E.1
  have hb := E.2.1
  have hs : Sp ad 20 (FA ad 20) := Sp.fa hD
  have hl : lv_has ls 3 [(0, .ref (ad 0)), (1, .int 0), (2, .int 3)] := hl
  obtain ⟨f1, c2, b3⟩ := invM_7 hI
  obtain ⟨v4, ee5⟩ : ∃ z : Int32, f1 0 = z := ⟨_, rfl⟩
  have b6 : Bd v4 (0) (12) := (by rw [← ee5]; exact b3.1 0 (by decide))
  obtain ⟨v7, ee8⟩ : ∃ z : Int32, f1 30 = z := ⟨_, rfl⟩
  have b9 : Bd v7 (0) (12) := (by rw [← ee8]; exact b3.1 30 (by decide))
  obtain ⟨v10, ee11⟩ : ∃ z : Int32, f1 1 = z := ⟨_, rfl⟩
  have b12 : Bd v10 (0) (12) := (by rw [← ee11]; exact b3.2.1 1 (by decide))
  obtain ⟨v13, ee14⟩ : ∃ z : Int32, f1 31 = z := ⟨_, rfl⟩
  have b15 : Bd v13 (0) (12) := (by rw [← ee14]; exact b3.2.1 31 (by decide))
  obtain ⟨v16, ee17⟩ : ∃ z : Int32, f1 3 = z := ⟨_, rfl⟩
  have b18 : Bd v16 (0) (12) := (by rw [← ee17]; exact b3.2.2.2.1 3 (by decide))
  obtain ⟨v19, ee20⟩ : ∃ z : Int32, f1 33 = z := ⟨_, rfl⟩
  have b21 : Bd v19 (0) (12) := (by rw [← ee20]; exact b3.2.2.2.1 33 (by decide))
  obtain ⟨v22, ee23⟩ : ∃ z : Int32, f1 6 = z := ⟨_, rfl⟩
  have b24 : Bd v22 (0) (8) := (by rw [← ee23]; exact b3.2.2.2.2.1 6 (by decide))
  obtain ⟨v25, ee26⟩ : ∃ z : Int32, f1 36 = z := ⟨_, rfl⟩
  have b27 : Bd v25 (0) (8) := (by rw [← ee26]; exact b3.2.2.2.2.1 36 (by decide))
  obtain ⟨v28, ee29⟩ : ∃ z : Int32, f1 8 = z := ⟨_, rfl⟩
  have b30 : Bd v28 (0) (3) := (by rw [← ee29]; exact b3.2.2.2.2.2.2.1 8 (by decide))
  obtain ⟨v31, ee32⟩ : ∃ z : Int32, f1 38 = z := ⟨_, rfl⟩
  have b33 : Bd v31 (0) (3) := (by rw [← ee32]; exact b3.2.2.2.2.2.2.1 38 (by decide))
  obtain ⟨v34, ee35⟩ : ∃ z : Int32, f1 9 = z := ⟨_, rfl⟩
  have b36 : Bd v34 (0) (40) := (by rw [← ee35]; exact b3.2.2.2.2.2.2.2 9 (by decide))
  obtain ⟨v37, ee38⟩ : ∃ z : Int32, f1 39 = z := ⟨_, rfl⟩
  have b39 : Bd v37 (0) (40) := (by rw [← ee38]; exact b3.2.2.2.2.2.2.2 39 (by decide))
  obtain ⟨v40, ee41⟩ : ∃ z : Int32, f1 10 = z := ⟨_, rfl⟩
  have b42 : Bd v40 (0) (12) := (by rw [← ee41]; exact b3.1 10 (by decide))
  obtain ⟨v43, ee44⟩ : ∃ z : Int32, f1 11 = z := ⟨_, rfl⟩
  have b45 : Bd v43 (0) (12) := (by rw [← ee44]; exact b3.2.1 11 (by decide))
  obtain ⟨v46, ee47⟩ : ∃ z : Int32, f1 13 = z := ⟨_, rfl⟩
  have b48 : Bd v46 (0) (12) := (by rw [← ee47]; exact b3.2.2.2.1 13 (by decide))
  obtain ⟨v49, ee50⟩ : ∃ z : Int32, f1 16 = z := ⟨_, rfl⟩
  have b51 : Bd v49 (0) (8) := (by rw [← ee50]; exact b3.2.2.2.2.1 16 (by decide))
  obtain ⟨v52, ee53⟩ : ∃ z : Int32, f1 18 = z := ⟨_, rfl⟩
  have b54 : Bd v52 (0) (3) := (by rw [← ee53]; exact b3.2.2.2.2.2.2.1 18 (by decide))
  obtain ⟨v55, ee56⟩ : ∃ z : Int32, f1 19 = z := ⟨_, rfl⟩
  have b57 : Bd v55 (0) (40) := (by rw [← ee56]; exact b3.2.2.2.2.2.2.2 19 (by decide))
  obtain ⟨v58, ee59⟩ : ∃ z : Int32, f1 20 = z := ⟨_, rfl⟩
  have b60 : Bd v58 (0) (12) := (by rw [← ee59]; exact b3.1 20 (by decide))
  obtain ⟨v61, ee62⟩ : ∃ z : Int32, f1 21 = z := ⟨_, rfl⟩
  have b63 : Bd v61 (0) (12) := (by rw [← ee62]; exact b3.2.1 21 (by decide))
  obtain ⟨v64, ee65⟩ : ∃ z : Int32, f1 23 = z := ⟨_, rfl⟩
  have b66 : Bd v64 (0) (12) := (by rw [← ee65]; exact b3.2.2.2.1 23 (by decide))
  obtain ⟨v67, ee68⟩ : ∃ z : Int32, f1 26 = z := ⟨_, rfl⟩
  have b69 : Bd v67 (0) (8) := (by rw [← ee68]; exact b3.2.2.2.2.1 26 (by decide))
  obtain ⟨v70, ee71⟩ : ∃ z : Int32, f1 28 = z := ⟨_, rfl⟩
  have b72 : Bd v70 (0) (3) := (by rw [← ee71]; exact b3.2.2.2.2.2.2.1 28 (by decide))
  obtain ⟨v73, ee74⟩ : ∃ z : Int32, f1 29 = z := ⟨_, rfl⟩
  have b75 : Bd v73 (0) (40) := (by rw [← ee74]; exact b3.2.2.2.2.2.2.2 29 (by decide))
  obtain ⟨f76, c77, b78⟩ := invM_6 hI
  obtain ⟨v79, ee80⟩ : ∃ z : Int32, f76 0 = z := ⟨_, rfl⟩
  have b81 : Bd v79 (0) (40000) := (by rw [← ee80]; exact b78 0)
  obtain ⟨v82, ee83⟩ : ∃ z : Int32, f76 3 = z := ⟨_, rfl⟩
  have b84 : Bd v82 (0) (40000) := (by rw [← ee83]; exact b78 3)
  obtain ⟨v85, ee86⟩ : ∃ z : Int32, f76 1 = z := ⟨_, rfl⟩
  have b87 : Bd v85 (0) (40000) := (by rw [← ee86]; exact b78 1)
  obtain ⟨v88, ee89⟩ : ∃ z : Int32, f76 2 = z := ⟨_, rfl⟩
  have b90 : Bd v88 (0) (40000) := (by rw [← ee89]; exact b78 2)
  obtain ⟨f91, c92, b93⟩ := invM_12 hI
  obtain ⟨f94, c95, b96⟩ := invM_9 hI
  refine lv_aload_n hx hb dX12_copyShore_0 rfl (lv_at hl 0 rfl) ?_
  obtain ⟨v97, v98, v100, v102, v104, v105, w106, v107, v109, v110, v111, v112, v114, v116, v118, v120, v122, v123, v124, c125, b99, b101, b103, b108, b113, b115, b117, b119, b121⟩ := invM_0 hI
  have c125 : S 0 = .inr (12, [.int v97, .ref (ad 1), .ref (ad 2), .ref (ad 3), .ref (ad 4), .ref (ad 5), .int v98, .int v100, .int v102, .int v104, .int v105, .long w106, .int v107, .int v109, .int v110, .int v111, .ref (ad 6), .ref (ad 7), .ref (ad 8), .ref (ad 9), .ref (ad 10), .ref (ad 11), .ref (ad 12), .ref (ad 13), .ref (ad 14), .ref (ad 15), .int v112, .int v114, .ref (ad 16), .int v116, .int v118, .int v120, .int v122, .int v123, .ref (ad 17), .ref (ad 18), .int v124, .ref (ad 19)]) := c125
  refine xget E hQ 0 (by decide) c125 rfl 16 (by decide) q1484 rfl dX12_copyShore_1 ?_
  refine lv_iconst (v := 1) hx hb dX12_copyShore_4 (by decide) ?_
  refine lv_iload_n hx hb dX12_copyShore_5 rfl (lv_at hl 1 rfl) ?_
  refine lv_iload_n hx hb dX12_copyShore_6 rfl (lv_at hl 2 rfl) ?_
  refine xcSv E hs hQ hml hl.1 (uCopyRow l g ad 20 hD S 6 (by decide) 5 (by decide) f76 1 0 3 (by decide) (by decide) (by decide) c77) mX12_copyRow q1743 rfl ⟨(Nat.le_of_ble_eq_true rfl), (Nat.le_of_ble_eq_true rfl)⟩ ⟨(Nat.le_of_ble_eq_true rfl), (Nat.le_of_ble_eq_true rfl)⟩ (Nat.le_of_ble_eq_true rfl) rfl dX12_copyShore_7 (fun S126 H locs eS126 hQ => ?_)
  have hI := invM_up_6 hI eS126 ⟨_, rfl, cp_b b78⟩
  have b128 : ∀ j, Bd ((cpF f76 1 0 3 1) j) (0) (40000) := cp_b b78
  have c127 : S126 6 = .inl (g.2 0, 5, .inl (cpF f76 1 0 3 1)) := up_at eS126 rfl
  refine lv_aload_n hx hb dX12_copyShore_10 rfl (lv_at hl 0 rfl) ?_
  have c129 : S126 0 = .inr (12, [.int v97, .ref (ad 1), .ref (ad 2), .ref (ad 3), .ref (ad 4), .ref (ad 5), .int v98, .int v100, .int v102, .int v104, .int v105, .long w106, .int v107, .int v109, .int v110, .int v111, .ref (ad 6), .ref (ad 7), .ref (ad 8), .ref (ad 9), .ref (ad 10), .ref (ad 11), .ref (ad 12), .ref (ad 13), .ref (ad 14), .ref (ad 15), .int v112, .int v114, .ref (ad 16), .int v116, .int v118, .int v120, .int v122, .int v123, .ref (ad 17), .ref (ad 18), .int v124, .ref (ad 19)]) := (up_ne eS126 (by decide) c125)
  refine xget E hQ 0 (by decide) c129 rfl 17 (by decide) q1485 rfl dX12_copyShore_11 ?_
  refine lv_bipush (v := 10) hx hb dX12_copyShore_14 (by decide) ?_
  refine lv_iload_n hx hb dX12_copyShore_16 rfl (lv_at hl 1 rfl) ?_
  refine lv_iload_n hx hb dX12_copyShore_17 rfl (lv_at hl 2 rfl) ?_
  have c130 : S126 7 = .inl (g.2 0, 50, .inl f1) := (up_ne eS126 (by decide) c2)
  refine xcSv E hs hQ hml hl.1 (uCopyRow l g ad 20 hD S126 7 (by decide) 50 (by decide) f1 10 0 3 (by decide) (by decide) (by decide) c130) mX12_copyRow q1743 rfl ⟨(Nat.le_of_ble_eq_true rfl), (Nat.le_of_ble_eq_true rfl)⟩ ⟨(Nat.le_of_ble_eq_true rfl), (Nat.le_of_ble_eq_true rfl)⟩ (Nat.le_of_ble_eq_true rfl) rfl dX12_copyShore_18 (fun S131 H locs eS131 hQ => ?_)
  have hI := invM_up_7 hI eS131 ⟨_, rfl, ⟨cp_m (q := 1) b3.1 (by decide), cp_m (q := 1) b3.2.1 (by decide), cp_m (q := 1) b3.2.2.1 (by decide), cp_m (q := 1) b3.2.2.2.1 (by decide), cp_m (q := 1) b3.2.2.2.2.1 (by decide), cp_m (q := 1) b3.2.2.2.2.2.1 (by decide), cp_m (q := 1) b3.2.2.2.2.2.2.1 (by decide), cp_m (q := 1) b3.2.2.2.2.2.2.2 (by decide)⟩⟩
  have b133 : (∀ j, j % 10 = 0 → Bd ((cpF f1 10 0 3 10) j) (0) (12)) ∧ (∀ j, j % 10 = 1 → Bd ((cpF f1 10 0 3 10) j) (0) (12)) ∧ (∀ j, j % 10 = 2 → Bd ((cpF f1 10 0 3 10) j) (0) (6)) ∧ (∀ j, j % 10 = 3 → Bd ((cpF f1 10 0 3 10) j) (0) (12)) ∧ (∀ j, j % 10 = 6 → Bd ((cpF f1 10 0 3 10) j) (0) (8)) ∧ (∀ j, j % 10 = 7 → Bd ((cpF f1 10 0 3 10) j) (0) (6)) ∧ (∀ j, j % 10 = 8 → Bd ((cpF f1 10 0 3 10) j) (0) (3)) ∧ (∀ j, j % 10 = 9 → Bd ((cpF f1 10 0 3 10) j) (0) (40)) := ⟨cp_m (q := 1) b3.1 (by decide), cp_m (q := 1) b3.2.1 (by decide), cp_m (q := 1) b3.2.2.1 (by decide), cp_m (q := 1) b3.2.2.2.1 (by decide), cp_m (q := 1) b3.2.2.2.2.1 (by decide), cp_m (q := 1) b3.2.2.2.2.2.1 (by decide), cp_m (q := 1) b3.2.2.2.2.2.2.1 (by decide), cp_m (q := 1) b3.2.2.2.2.2.2.2 (by decide)⟩
  have c132 : S131 7 = .inl (g.2 0, 50, .inl (cpF f1 10 0 3 10)) := up_at eS131 rfl
  refine lv_aload_n hx hb dX12_copyShore_21 rfl (lv_at hl 0 rfl) ?_
  have c134 : S131 0 = .inr (12, [.int v97, .ref (ad 1), .ref (ad 2), .ref (ad 3), .ref (ad 4), .ref (ad 5), .int v98, .int v100, .int v102, .int v104, .int v105, .long w106, .int v107, .int v109, .int v110, .int v111, .ref (ad 6), .ref (ad 7), .ref (ad 8), .ref (ad 9), .ref (ad 10), .ref (ad 11), .ref (ad 12), .ref (ad 13), .ref (ad 14), .ref (ad 15), .int v112, .int v114, .ref (ad 16), .int v116, .int v118, .int v120, .int v122, .int v123, .ref (ad 17), .ref (ad 18), .int v124, .ref (ad 19)]) := (up_ne eS131 (by decide) c129)
  refine xget E hQ 0 (by decide) c134 rfl 18 (by decide) q1486 rfl dX12_copyShore_22 ?_
  refine lv_bipush (v := 24) hx hb dX12_copyShore_25 (by decide) ?_
  refine lv_iload_n hx hb dX12_copyShore_27 rfl (lv_at hl 1 rfl) ?_
  refine lv_iload_n hx hb dX12_copyShore_28 rfl (lv_at hl 2 rfl) ?_
  obtain ⟨f135, c136⟩ := invM_8 hI
  refine xcSv E hs hQ hml hl.1 (uCopyRow l g ad 20 hD S131 8 (by decide) 120 (by decide) f135 24 0 3 (by decide) (by decide) (by decide) c136) mX12_copyRow q1743 rfl ⟨(Nat.le_of_ble_eq_true rfl), (Nat.le_of_ble_eq_true rfl)⟩ ⟨(Nat.le_of_ble_eq_true rfl), (Nat.le_of_ble_eq_true rfl)⟩ (Nat.le_of_ble_eq_true rfl) rfl dX12_copyShore_29 (fun S138 H locs eS138 hQ => ?_)
  have hI := invM_up_8 hI eS138 ⟨_, rfl⟩
  have c139 : S138 8 = .inl (g.2 0, 120, .inl (cpF f135 24 0 3 24)) := up_at eS138 rfl
  refine lv_aload_n hx hb dX12_copyShore_32 rfl (lv_at hl 0 rfl) ?_
  have c140 : S138 0 = .inr (12, [.int v97, .ref (ad 1), .ref (ad 2), .ref (ad 3), .ref (ad 4), .ref (ad 5), .int v98, .int v100, .int v102, .int v104, .int v105, .long w106, .int v107, .int v109, .int v110, .int v111, .ref (ad 6), .ref (ad 7), .ref (ad 8), .ref (ad 9), .ref (ad 10), .ref (ad 11), .ref (ad 12), .ref (ad 13), .ref (ad 14), .ref (ad 15), .int v112, .int v114, .ref (ad 16), .int v116, .int v118, .int v120, .int v122, .int v123, .ref (ad 17), .ref (ad 18), .int v124, .ref (ad 19)]) := (up_ne eS138 (by decide) c134)
  refine xget E hQ 0 (by decide) c140 rfl 19 (by decide) q1487 rfl dX12_copyShore_33 ?_
  refine lv_bipush (v := 24) hx hb dX12_copyShore_36 (by decide) ?_
  refine lv_iload_n hx hb dX12_copyShore_38 rfl (lv_at hl 1 rfl) ?_
  refine lv_iload_n hx hb dX12_copyShore_39 rfl (lv_at hl 2 rfl) ?_
  have c141 : S138 9 = .inl (g.2 0, 120, .inl f94) := (up_ne eS138 (by decide) (up_ne eS131 (by decide) (up_ne eS126 (by decide) c95)))
  refine xcSv E hs hQ hml hl.1 (uCopyRow l g ad 20 hD S138 9 (by decide) 120 (by decide) f94 24 0 3 (by decide) (by decide) (by decide) c141) mX12_copyRow q1743 rfl ⟨(Nat.le_of_ble_eq_true rfl), (Nat.le_of_ble_eq_true rfl)⟩ ⟨(Nat.le_of_ble_eq_true rfl), (Nat.le_of_ble_eq_true rfl)⟩ (Nat.le_of_ble_eq_true rfl) rfl dX12_copyShore_40 (fun S142 H locs eS142 hQ => ?_)
  have hI := invM_up_9 hI eS142 ⟨_, rfl, ⟨cp_m (q := 8) b96.1 (by decide), cp_m (q := 8) b96.2 (by decide)⟩⟩
  have b144 : (∀ j, j % 3 = 1 → Bd ((cpF f94 24 0 3 24) j) (0) (11)) ∧ (∀ j, j % 3 = 2 → Bd ((cpF f94 24 0 3 24) j) (0) (99)) := ⟨cp_m (q := 8) b96.1 (by decide), cp_m (q := 8) b96.2 (by decide)⟩
  have c143 : S142 9 = .inl (g.2 0, 120, .inl (cpF f94 24 0 3 24)) := up_at eS142 rfl
  refine lv_aload_n hx hb dX12_copyShore_43 rfl (lv_at hl 0 rfl) ?_
  have c145 : S142 0 = .inr (12, [.int v97, .ref (ad 1), .ref (ad 2), .ref (ad 3), .ref (ad 4), .ref (ad 5), .int v98, .int v100, .int v102, .int v104, .int v105, .long w106, .int v107, .int v109, .int v110, .int v111, .ref (ad 6), .ref (ad 7), .ref (ad 8), .ref (ad 9), .ref (ad 10), .ref (ad 11), .ref (ad 12), .ref (ad 13), .ref (ad 14), .ref (ad 15), .int v112, .int v114, .ref (ad 16), .int v116, .int v118, .int v120, .int v122, .int v123, .ref (ad 17), .ref (ad 18), .int v124, .ref (ad 19)]) := (up_ne eS142 (by decide) c140)
  refine xget E hQ 0 (by decide) c145 rfl 20 (by decide) q1488 rfl dX12_copyShore_44 ?_
  refine lv_bipush (v := 24) hx hb dX12_copyShore_47 (by decide) ?_
  refine lv_iload_n hx hb dX12_copyShore_49 rfl (lv_at hl 1 rfl) ?_
  refine lv_iload_n hx hb dX12_copyShore_50 rfl (lv_at hl 2 rfl) ?_
  obtain ⟨f146, c147⟩ := invM_10 hI
  refine xcSv E hs hQ hml hl.1 (uCopyRow l g ad 20 hD S142 10 (by decide) 120 (by decide) f146 24 0 3 (by decide) (by decide) (by decide) c147) mX12_copyRow q1743 rfl ⟨(Nat.le_of_ble_eq_true rfl), (Nat.le_of_ble_eq_true rfl)⟩ ⟨(Nat.le_of_ble_eq_true rfl), (Nat.le_of_ble_eq_true rfl)⟩ (Nat.le_of_ble_eq_true rfl) rfl dX12_copyShore_51 (fun S149 H locs eS149 hQ => ?_)
  have hI := invM_up_10 hI eS149 ⟨_, rfl⟩
  have c150 : S149 10 = .inl (g.2 0, 120, .inl (cpF f146 24 0 3 24)) := up_at eS149 rfl
  refine lv_aload_n hx hb dX12_copyShore_54 rfl (lv_at hl 0 rfl) ?_
  have c151 : S149 0 = .inr (12, [.int v97, .ref (ad 1), .ref (ad 2), .ref (ad 3), .ref (ad 4), .ref (ad 5), .int v98, .int v100, .int v102, .int v104, .int v105, .long w106, .int v107, .int v109, .int v110, .int v111, .ref (ad 6), .ref (ad 7), .ref (ad 8), .ref (ad 9), .ref (ad 10), .ref (ad 11), .ref (ad 12), .ref (ad 13), .ref (ad 14), .ref (ad 15), .int v112, .int v114, .ref (ad 16), .int v116, .int v118, .int v120, .int v122, .int v123, .ref (ad 17), .ref (ad 18), .int v124, .ref (ad 19)]) := (up_ne eS149 (by decide) c145)
  refine xget E hQ 0 (by decide) c151 rfl 21 (by decide) q1489 rfl dX12_copyShore_55 ?_
  refine lv_iconst (v := 3) hx hb dX12_copyShore_58 (by decide) ?_
  refine lv_iload_n hx hb dX12_copyShore_59 rfl (lv_at hl 1 rfl) ?_
  refine lv_iload_n hx hb dX12_copyShore_60 rfl (lv_at hl 2 rfl) ?_
  obtain ⟨f152, c153, b154⟩ := invM_11 hI
  refine xcSv E hs hQ hml hl.1 (uCopyRow l g ad 20 hD S149 11 (by decide) 15 (by decide) f152 3 0 3 (by decide) (by decide) (by decide) c153) mX12_copyRow q1743 rfl ⟨(Nat.le_of_ble_eq_true rfl), (Nat.le_of_ble_eq_true rfl)⟩ ⟨(Nat.le_of_ble_eq_true rfl), (Nat.le_of_ble_eq_true rfl)⟩ (Nat.le_of_ble_eq_true rfl) rfl dX12_copyShore_61 (fun S155 H locs eS155 hQ => ?_)
  have hI := invM_up_11 hI eS155 ⟨_, rfl, cp_b b154⟩
  have b157 : ∀ j, Bd ((cpF f152 3 0 3 3) j) (0) (11) := cp_b b154
  have c156 : S155 11 = .inl (g.2 0, 15, .inl (cpF f152 3 0 3 3)) := up_at eS155 rfl
  refine lv_aload_n hx hb dX12_copyShore_64 rfl (lv_at hl 0 rfl) ?_
  have c158 : S155 0 = .inr (12, [.int v97, .ref (ad 1), .ref (ad 2), .ref (ad 3), .ref (ad 4), .ref (ad 5), .int v98, .int v100, .int v102, .int v104, .int v105, .long w106, .int v107, .int v109, .int v110, .int v111, .ref (ad 6), .ref (ad 7), .ref (ad 8), .ref (ad 9), .ref (ad 10), .ref (ad 11), .ref (ad 12), .ref (ad 13), .ref (ad 14), .ref (ad 15), .int v112, .int v114, .ref (ad 16), .int v116, .int v118, .int v120, .int v122, .int v123, .ref (ad 17), .ref (ad 18), .int v124, .ref (ad 19)]) := (up_ne eS155 (by decide) c151)
  refine xget E hQ 0 (by decide) c158 rfl 22 (by decide) q1490 rfl dX12_copyShore_65 ?_
  refine lv_sipush (v := 160) hx hb dX12_copyShore_68 (by decide) ?_
  refine lv_iload_n hx hb dX12_copyShore_71 rfl (lv_at hl 1 rfl) ?_
  refine lv_iload_n hx hb dX12_copyShore_72 rfl (lv_at hl 2 rfl) ?_
  have c159 : S155 12 = .inl (g.2 0, 800, .inl f91) := (up_ne eS155 (by decide) (up_ne eS149 (by decide) (up_ne eS142 (by decide) (up_ne eS138 (by decide) (up_ne eS131 (by decide) (up_ne eS126 (by decide) c92))))))
  refine xcSv E hs hQ hml hl.1 (uCopyRow l g ad 20 hD S155 12 (by decide) 800 (by decide) f91 160 0 3 (by decide) (by decide) (by decide) c159) mX12_copyRow q1743 rfl ⟨(Nat.le_of_ble_eq_true rfl), (Nat.le_of_ble_eq_true rfl)⟩ ⟨(Nat.le_of_ble_eq_true rfl), (Nat.le_of_ble_eq_true rfl)⟩ (Nat.le_of_ble_eq_true rfl) rfl dX12_copyShore_73 (fun S160 H locs eS160 hQ => ?_)
  have hI := invM_up_12 hI eS160 ⟨_, rfl, ⟨cp_m (q := 40) b93.1 (by decide), cp_m (q := 40) b93.2 (by decide)⟩⟩
  have b162 : (∀ j, j % 4 = 1 → Bd ((cpF f91 160 0 3 160) j) (0) (7)) ∧ (∀ j, j % 4 = 2 → Bd ((cpF f91 160 0 3 160) j) (0) (400)) := ⟨cp_m (q := 40) b93.1 (by decide), cp_m (q := 40) b93.2 (by decide)⟩
  have c161 : S160 12 = .inl (g.2 0, 800, .inl (cpF f91 160 0 3 160)) := up_at eS160 rfl
  have q163 : elm (S 7) 0 = v4.toInt := (elm_of c2 0).trans (congrArg Int32.toInt (ee5))
  have c164 : S160 7 = .inl (g.2 0, 50, .inl (cpF f1 10 0 3 10)) := (up_ne eS160 (by decide) (up_ne eS155 (by decide) (up_ne eS149 (by decide) (up_ne eS142 (by decide) (up_ne eS138 (by decide) c132)))))
  have q165 : elm (S160 7) 30 = v4.toInt := (elm_of c164 30).trans (congrArg Int32.toInt (((show cpF f1 10 0 3 10 30 = f1 0 from rfl).trans (ee5))))
  have q166 : elm (S 7) 1 = v10.toInt := (elm_of c2 1).trans (congrArg Int32.toInt (ee11))
  have q167 : elm (S160 7) 31 = v10.toInt := (elm_of c164 31).trans (congrArg Int32.toInt (((show cpF f1 10 0 3 10 31 = f1 1 from rfl).trans (ee11))))
  have q168 : elm (S 7) 3 = v16.toInt := (elm_of c2 3).trans (congrArg Int32.toInt (ee17))
  have q169 : elm (S160 7) 33 = v16.toInt := (elm_of c164 33).trans (congrArg Int32.toInt (((show cpF f1 10 0 3 10 33 = f1 3 from rfl).trans (ee17))))
  have q170 : elm (S 7) 6 = v22.toInt := (elm_of c2 6).trans (congrArg Int32.toInt (ee23))
  have q171 : elm (S160 7) 36 = v22.toInt := (elm_of c164 36).trans (congrArg Int32.toInt (((show cpF f1 10 0 3 10 36 = f1 6 from rfl).trans (ee23))))
  have q172 : elm (S 7) 8 = v28.toInt := (elm_of c2 8).trans (congrArg Int32.toInt (ee29))
  have q173 : elm (S160 7) 38 = v28.toInt := (elm_of c164 38).trans (congrArg Int32.toInt (((show cpF f1 10 0 3 10 38 = f1 8 from rfl).trans (ee29))))
  have q174 : elm (S 7) 9 = v34.toInt := (elm_of c2 9).trans (congrArg Int32.toInt (ee35))
  have q175 : elm (S160 7) 39 = v34.toInt := (elm_of c164 39).trans (congrArg Int32.toInt (((show cpF f1 10 0 3 10 39 = f1 9 from rfl).trans (ee35))))
  have q176 : elm (S160 7) 0 = v4.toInt := (elm_of c164 0).trans (congrArg Int32.toInt (((show cpF f1 10 0 3 10 0 = f1 0 from rfl).trans (ee5))))
  have q177 : elm (S160 7) 1 = v10.toInt := (elm_of c164 1).trans (congrArg Int32.toInt (((show cpF f1 10 0 3 10 1 = f1 1 from rfl).trans (ee11))))
  have q178 : elm (S160 7) 3 = v16.toInt := (elm_of c164 3).trans (congrArg Int32.toInt (((show cpF f1 10 0 3 10 3 = f1 3 from rfl).trans (ee17))))
  have q179 : elm (S160 7) 6 = v22.toInt := (elm_of c164 6).trans (congrArg Int32.toInt (((show cpF f1 10 0 3 10 6 = f1 6 from rfl).trans (ee23))))
  have q180 : elm (S160 7) 8 = v28.toInt := (elm_of c164 8).trans (congrArg Int32.toInt (((show cpF f1 10 0 3 10 8 = f1 8 from rfl).trans (ee29))))
  have q181 : elm (S160 7) 9 = v34.toInt := (elm_of c164 9).trans (congrArg Int32.toInt (((show cpF f1 10 0 3 10 9 = f1 9 from rfl).trans (ee35))))
  have q182 : elm (S 7) 10 = v40.toInt := (elm_of c2 10).trans (congrArg Int32.toInt (ee41))
  have q183 : elm (S160 7) 10 = v40.toInt := (elm_of c164 10).trans (congrArg Int32.toInt (((show cpF f1 10 0 3 10 10 = f1 10 from rfl).trans (ee41))))
  have q184 : elm (S 7) 11 = v43.toInt := (elm_of c2 11).trans (congrArg Int32.toInt (ee44))
  have q185 : elm (S160 7) 11 = v43.toInt := (elm_of c164 11).trans (congrArg Int32.toInt (((show cpF f1 10 0 3 10 11 = f1 11 from rfl).trans (ee44))))
  have q186 : elm (S 7) 13 = v46.toInt := (elm_of c2 13).trans (congrArg Int32.toInt (ee47))
  have q187 : elm (S160 7) 13 = v46.toInt := (elm_of c164 13).trans (congrArg Int32.toInt (((show cpF f1 10 0 3 10 13 = f1 13 from rfl).trans (ee47))))
  have q188 : elm (S 7) 16 = v49.toInt := (elm_of c2 16).trans (congrArg Int32.toInt (ee50))
  have q189 : elm (S160 7) 16 = v49.toInt := (elm_of c164 16).trans (congrArg Int32.toInt (((show cpF f1 10 0 3 10 16 = f1 16 from rfl).trans (ee50))))
  have q190 : elm (S 7) 18 = v52.toInt := (elm_of c2 18).trans (congrArg Int32.toInt (ee53))
  have q191 : elm (S160 7) 18 = v52.toInt := (elm_of c164 18).trans (congrArg Int32.toInt (((show cpF f1 10 0 3 10 18 = f1 18 from rfl).trans (ee53))))
  have q192 : elm (S 7) 19 = v55.toInt := (elm_of c2 19).trans (congrArg Int32.toInt (ee56))
  have q193 : elm (S160 7) 19 = v55.toInt := (elm_of c164 19).trans (congrArg Int32.toInt (((show cpF f1 10 0 3 10 19 = f1 19 from rfl).trans (ee56))))
  have q194 : elm (S 7) 20 = v58.toInt := (elm_of c2 20).trans (congrArg Int32.toInt (ee59))
  have q195 : elm (S160 7) 20 = v58.toInt := (elm_of c164 20).trans (congrArg Int32.toInt (((show cpF f1 10 0 3 10 20 = f1 20 from rfl).trans (ee59))))
  have q196 : elm (S 7) 21 = v61.toInt := (elm_of c2 21).trans (congrArg Int32.toInt (ee62))
  have q197 : elm (S160 7) 21 = v61.toInt := (elm_of c164 21).trans (congrArg Int32.toInt (((show cpF f1 10 0 3 10 21 = f1 21 from rfl).trans (ee62))))
  have q198 : elm (S 7) 23 = v64.toInt := (elm_of c2 23).trans (congrArg Int32.toInt (ee65))
  have q199 : elm (S160 7) 23 = v64.toInt := (elm_of c164 23).trans (congrArg Int32.toInt (((show cpF f1 10 0 3 10 23 = f1 23 from rfl).trans (ee65))))
  have q200 : elm (S 7) 26 = v67.toInt := (elm_of c2 26).trans (congrArg Int32.toInt (ee68))
  have q201 : elm (S160 7) 26 = v67.toInt := (elm_of c164 26).trans (congrArg Int32.toInt (((show cpF f1 10 0 3 10 26 = f1 26 from rfl).trans (ee68))))
  have q202 : elm (S 7) 28 = v70.toInt := (elm_of c2 28).trans (congrArg Int32.toInt (ee71))
  have q203 : elm (S160 7) 28 = v70.toInt := (elm_of c164 28).trans (congrArg Int32.toInt (((show cpF f1 10 0 3 10 28 = f1 28 from rfl).trans (ee71))))
  have q204 : elm (S 7) 29 = v73.toInt := (elm_of c2 29).trans (congrArg Int32.toInt (ee74))
  have q205 : elm (S160 7) 29 = v73.toInt := (elm_of c164 29).trans (congrArg Int32.toInt (((show cpF f1 10 0 3 10 29 = f1 29 from rfl).trans (ee74))))
  have q206 : elm (S 6) 0 = v79.toInt := (elm_of c77 0).trans (congrArg Int32.toInt (ee80))
  have c207 : S160 6 = .inl (g.2 0, 5, .inl (cpF f76 1 0 3 1)) := (up_ne eS160 (by decide) (up_ne eS155 (by decide) (up_ne eS149 (by decide) (up_ne eS142 (by decide) (up_ne eS138 (by decide) (up_ne eS131 (by decide) c127))))))
  have q208 : elm (S160 6) 3 = v79.toInt := (elm_of c207 3).trans (congrArg Int32.toInt (((show cpF f76 1 0 3 1 3 = f76 0 from rfl).trans (ee80))))
  have q209 : elm (S160 6) 0 = v79.toInt := (elm_of c207 0).trans (congrArg Int32.toInt (((show cpF f76 1 0 3 1 0 = f76 0 from rfl).trans (ee80))))
  have q210 : elm (S 6) 1 = v85.toInt := (elm_of c77 1).trans (congrArg Int32.toInt (ee86))
  have q211 : elm (S160 6) 1 = v85.toInt := (elm_of c207 1).trans (congrArg Int32.toInt (((show cpF f76 1 0 3 1 1 = f76 1 from rfl).trans (ee86))))
  have q212 : elm (S 6) 2 = v88.toInt := (elm_of c77 2).trans (congrArg Int32.toInt (ee89))
  have q213 : elm (S160 6) 2 = v88.toInt := (elm_of c207 2).trans (congrArg Int32.toInt (((show cpF f76 1 0 3 1 2 = f76 2 from rfl).trans (ee89))))
  have c214 : S160 9 = .inl (g.2 0, 120, .inl (cpF f94 24 0 3 24)) := (up_ne eS160 (by decide) (up_ne eS155 (by decide) (up_ne eS149 (by decide) c143)))
  exact xrv E hr hlk hQ (⟨hI, (up_o (up_o (up_o (up_o (up_o (up_o (up_o o_refl eS126 (by decide)) eS131 (by decide)) eS138 (by decide)) eS142 (by decide)) eS149 (by decide)) eS155 (by decide)) eS160 (by decide)), ⟨by omega, by omega⟩, ⟨by omega, by omega⟩, ⟨by omega, by omega⟩, ⟨by omega, by omega⟩, ⟨by omega, by omega⟩, ⟨by omega, by omega⟩, ⟨by omega, by omega⟩, ⟨by omega, by omega⟩, ⟨by omega, by omega⟩, ⟨by omega, by omega⟩, ⟨by omega, by omega⟩, ⟨by omega, by omega⟩, ⟨by omega, by omega⟩, ⟨by omega, by omega⟩, ⟨by omega, by omega⟩, ⟨by omega, by omega⟩, ⟨by omega, by omega⟩, ⟨by omega, by omega⟩, ⟨by omega, by omega⟩, ⟨by omega, by omega⟩, ⟨by omega, by omega⟩, ⟨by omega, by omega⟩, ⟨by omega, by omega⟩, ⟨by omega, by omega⟩, ⟨by omega, by omega⟩, ⟨by omega, by omega⟩, ⟨by omega, by omega⟩, ⟨by omega, by omega⟩, (at_cpo c2 c92 c164 c161 b3.2.2.2.2.2.2.2 (by decide) hAT0), (at_cpo c2 c92 c164 c161 b3.2.2.2.2.2.2.2 (by decide) hAT1), (at_cpo c2 c92 c164 c161 b3.2.2.2.2.2.2.2 (by decide) hAT2), (at_cpb c2 c92 c164 c161 b3.2.2.2.2.2.2.2 hAT0), (ht_cpo c2 c95 c164 c214 b3.2.2.2.2.1 (by decide) hHT0), (ht_cpo c2 c95 c164 c214 b3.2.2.2.2.1 (by decide) hHT1), (ht_cpo c2 c95 c164 c214 b3.2.2.2.2.1 (by decide) hHT2), (ht_cpb c2 c95 c164 c214 b3.2.2.2.2.1 hHT0)⟩) dX12_copyShore_76
set_option maxHeartbeats 4000000 in
set_option maxRecDepth 100000 in
theorem gX12_copyShore_1_0 (l : Launch) (g : GG) (ad : Nat → Nat) (hD : Dj ad 20) (S : SS) (hI : InvM g ad S) (hAT0 : ATp (S 7) (S 12) 0) (hAT1 : ATp (S 7) (S 12) 1) (hAT2 : ATp (S 7) (S 12) 2) (hAT3 : ATp (S 7) (S 12) 3) (hHT0 : HTp (S 7) (S 9) 0) (hHT1 : HTp (S 7) (S 9) 1) (hHT2 : HTp (S 7) (S 9) 2) (hHT3 : HTp (S 7) (S 9) 3) : Met l yX12_copyShore (wG (.code yX12_copyShore cX12_copyShore 3 none)) (Rm 1) (XPre g ad 20 S [.ref (ad 0), .int 1, .int 0]) (va_Qv (fun S' => InvM g ad S' ∧ (∀ j, j ∉ ([6, 7, 8, 9, 10, 11, 12] : List Nat) → S' j = S j) ∧ (0 ≤ elm (S 7) 10 + (-1) * elm (S' 7) 0 ∧ 0 ≤ elm (S' 7) 0 + (-1) * elm (S 7) 10) ∧ (0 ≤ elm (S 7) 11 + (-1) * elm (S' 7) 1 ∧ 0 ≤ elm (S' 7) 1 + (-1) * elm (S 7) 11) ∧ (0 ≤ elm (S 7) 13 + (-1) * elm (S' 7) 3 ∧ 0 ≤ elm (S' 7) 3 + (-1) * elm (S 7) 13) ∧ (0 ≤ elm (S 7) 16 + (-1) * elm (S' 7) 6 ∧ 0 ≤ elm (S' 7) 6 + (-1) * elm (S 7) 16) ∧ (0 ≤ elm (S 7) 18 + (-1) * elm (S' 7) 8 ∧ 0 ≤ elm (S' 7) 8 + (-1) * elm (S 7) 18) ∧ (0 ≤ elm (S 7) 19 + (-1) * elm (S' 7) 9 ∧ 0 ≤ elm (S' 7) 9 + (-1) * elm (S 7) 19) ∧ (0 ≤ elm (S 7) 10 + (-1) * elm (S' 7) 10 ∧ 0 ≤ elm (S' 7) 10 + (-1) * elm (S 7) 10) ∧ (0 ≤ elm (S 7) 11 + (-1) * elm (S' 7) 11 ∧ 0 ≤ elm (S' 7) 11 + (-1) * elm (S 7) 11) ∧ (0 ≤ elm (S 7) 13 + (-1) * elm (S' 7) 13 ∧ 0 ≤ elm (S' 7) 13 + (-1) * elm (S 7) 13) ∧ (0 ≤ elm (S 7) 16 + (-1) * elm (S' 7) 16 ∧ 0 ≤ elm (S' 7) 16 + (-1) * elm (S 7) 16) ∧ (0 ≤ elm (S 7) 18 + (-1) * elm (S' 7) 18 ∧ 0 ≤ elm (S' 7) 18 + (-1) * elm (S 7) 18) ∧ (0 ≤ elm (S 7) 19 + (-1) * elm (S' 7) 19 ∧ 0 ≤ elm (S' 7) 19 + (-1) * elm (S 7) 19) ∧ (0 ≤ elm (S 7) 20 + (-1) * elm (S' 7) 20 ∧ 0 ≤ elm (S' 7) 20 + (-1) * elm (S 7) 20) ∧ (0 ≤ elm (S 7) 21 + (-1) * elm (S' 7) 21 ∧ 0 ≤ elm (S' 7) 21 + (-1) * elm (S 7) 21) ∧ (0 ≤ elm (S 7) 23 + (-1) * elm (S' 7) 23 ∧ 0 ≤ elm (S' 7) 23 + (-1) * elm (S 7) 23) ∧ (0 ≤ elm (S 7) 26 + (-1) * elm (S' 7) 26 ∧ 0 ≤ elm (S' 7) 26 + (-1) * elm (S 7) 26) ∧ (0 ≤ elm (S 7) 28 + (-1) * elm (S' 7) 28 ∧ 0 ≤ elm (S' 7) 28 + (-1) * elm (S 7) 28) ∧ (0 ≤ elm (S 7) 29 + (-1) * elm (S' 7) 29 ∧ 0 ≤ elm (S' 7) 29 + (-1) * elm (S 7) 29) ∧ (0 ≤ elm (S 7) 30 + (-1) * elm (S' 7) 30 ∧ 0 ≤ elm (S' 7) 30 + (-1) * elm (S 7) 30) ∧ (0 ≤ elm (S 7) 31 + (-1) * elm (S' 7) 31 ∧ 0 ≤ elm (S' 7) 31 + (-1) * elm (S 7) 31) ∧ (0 ≤ elm (S 7) 33 + (-1) * elm (S' 7) 33 ∧ 0 ≤ elm (S' 7) 33 + (-1) * elm (S 7) 33) ∧ (0 ≤ elm (S 7) 36 + (-1) * elm (S' 7) 36 ∧ 0 ≤ elm (S' 7) 36 + (-1) * elm (S 7) 36) ∧ (0 ≤ elm (S 7) 38 + (-1) * elm (S' 7) 38 ∧ 0 ≤ elm (S' 7) 38 + (-1) * elm (S 7) 38) ∧ (0 ≤ elm (S 7) 39 + (-1) * elm (S' 7) 39 ∧ 0 ≤ elm (S' 7) 39 + (-1) * elm (S 7) 39) ∧ (0 ≤ elm (S 6) 1 + (-1) * elm (S' 6) 0 ∧ 0 ≤ elm (S' 6) 0 + (-1) * elm (S 6) 1) ∧ (0 ≤ elm (S 6) 1 + (-1) * elm (S' 6) 1 ∧ 0 ≤ elm (S' 6) 1 + (-1) * elm (S 6) 1) ∧ (0 ≤ elm (S 6) 2 + (-1) * elm (S' 6) 2 ∧ 0 ≤ elm (S' 6) 2 + (-1) * elm (S 6) 2) ∧ (0 ≤ elm (S 6) 3 + (-1) * elm (S' 6) 3 ∧ 0 ≤ elm (S' 6) 3 + (-1) * elm (S 6) 3) ∧ (ATp (S' 7) (S' 12) 0) ∧ (ATp (S' 7) (S' 12) 1) ∧ (ATp (S' 7) (S' 12) 2) ∧ (ATp (S' 7) (S' 12) 3) ∧ (HTp (S' 7) (S' 9) 0) ∧ (HTp (S' 7) (S' 9) 1) ∧ (HTp (S' 7) (S' 9) 2) ∧ (HTp (S' 7) (S' 9) 3)) (QB g ad 20) (FA ad 20)) 0 0 (FA ad 20) := by
  refine xmet cX12_copyShore "EbbWreckModel" (by decide) rfl (Nat.le_of_ble_eq_true rfl) (fun p e s m below meth c E hr hlk hml hQ ls hl => ?_)
  have hx := E.1
  have hb := E.2.1
  have hs : Sp ad 20 (FA ad 20) := Sp.fa hD
  have hl : lv_has ls 3 [(0, .ref (ad 0)), (1, .int 1), (2, .int 0)] := hl
  obtain ⟨f1, c2, b3⟩ := invM_7 hI
  obtain ⟨v4, ee5⟩ : ∃ z : Int32, f1 10 = z := ⟨_, rfl⟩
  have b6 : Bd v4 (0) (12) := (by rw [← ee5]; exact b3.1 10 (by decide))
  obtain ⟨v7, ee8⟩ : ∃ z : Int32, f1 0 = z := ⟨_, rfl⟩
  have b9 : Bd v7 (0) (12) := (by rw [← ee8]; exact b3.1 0 (by decide))
  obtain ⟨v10, ee11⟩ : ∃ z : Int32, f1 11 = z := ⟨_, rfl⟩
  have b12 : Bd v10 (0) (12) := (by rw [← ee11]; exact b3.2.1 11 (by decide))
  obtain ⟨v13, ee14⟩ : ∃ z : Int32, f1 1 = z := ⟨_, rfl⟩
  have b15 : Bd v13 (0) (12) := (by rw [← ee14]; exact b3.2.1 1 (by decide))
  obtain ⟨v16, ee17⟩ : ∃ z : Int32, f1 13 = z := ⟨_, rfl⟩
  have b18 : Bd v16 (0) (12) := (by rw [← ee17]; exact b3.2.2.2.1 13 (by decide))
  obtain ⟨v19, ee20⟩ : ∃ z : Int32, f1 3 = z := ⟨_, rfl⟩
  have b21 : Bd v19 (0) (12) := (by rw [← ee20]; exact b3.2.2.2.1 3 (by decide))
  obtain ⟨v22, ee23⟩ : ∃ z : Int32, f1 16 = z := ⟨_, rfl⟩
  have b24 : Bd v22 (0) (8) := (by rw [← ee23]; exact b3.2.2.2.2.1 16 (by decide))
  obtain ⟨v25, ee26⟩ : ∃ z : Int32, f1 6 = z := ⟨_, rfl⟩
  have b27 : Bd v25 (0) (8) := (by rw [← ee26]; exact b3.2.2.2.2.1 6 (by decide))
  obtain ⟨v28, ee29⟩ : ∃ z : Int32, f1 18 = z := ⟨_, rfl⟩
  have b30 : Bd v28 (0) (3) := (by rw [← ee29]; exact b3.2.2.2.2.2.2.1 18 (by decide))
  obtain ⟨v31, ee32⟩ : ∃ z : Int32, f1 8 = z := ⟨_, rfl⟩
  have b33 : Bd v31 (0) (3) := (by rw [← ee32]; exact b3.2.2.2.2.2.2.1 8 (by decide))
  obtain ⟨v34, ee35⟩ : ∃ z : Int32, f1 19 = z := ⟨_, rfl⟩
  have b36 : Bd v34 (0) (40) := (by rw [← ee35]; exact b3.2.2.2.2.2.2.2 19 (by decide))
  obtain ⟨v37, ee38⟩ : ∃ z : Int32, f1 9 = z := ⟨_, rfl⟩
  have b39 : Bd v37 (0) (40) := (by rw [← ee38]; exact b3.2.2.2.2.2.2.2 9 (by decide))
  obtain ⟨v40, ee41⟩ : ∃ z : Int32, f1 20 = z := ⟨_, rfl⟩
  have b42 : Bd v40 (0) (12) := (by rw [← ee41]; exact b3.1 20 (by decide))
  obtain ⟨v43, ee44⟩ : ∃ z : Int32, f1 21 = z := ⟨_, rfl⟩
  have b45 : Bd v43 (0) (12) := (by rw [← ee44]; exact b3.2.1 21 (by decide))
  obtain ⟨v46, ee47⟩ : ∃ z : Int32, f1 23 = z := ⟨_, rfl⟩
  have b48 : Bd v46 (0) (12) := (by rw [← ee47]; exact b3.2.2.2.1 23 (by decide))
  obtain ⟨v49, ee50⟩ : ∃ z : Int32, f1 26 = z := ⟨_, rfl⟩
  have b51 : Bd v49 (0) (8) := (by rw [← ee50]; exact b3.2.2.2.2.1 26 (by decide))
  obtain ⟨v52, ee53⟩ : ∃ z : Int32, f1 28 = z := ⟨_, rfl⟩
  have b54 : Bd v52 (0) (3) := (by rw [← ee53]; exact b3.2.2.2.2.2.2.1 28 (by decide))
  obtain ⟨v55, ee56⟩ : ∃ z : Int32, f1 29 = z := ⟨_, rfl⟩
  have b57 : Bd v55 (0) (40) := (by rw [← ee56]; exact b3.2.2.2.2.2.2.2 29 (by decide))
  obtain ⟨v58, ee59⟩ : ∃ z : Int32, f1 30 = z := ⟨_, rfl⟩
  have b60 : Bd v58 (0) (12) := (by rw [← ee59]; exact b3.1 30 (by decide))
  obtain ⟨v61, ee62⟩ : ∃ z : Int32, f1 31 = z := ⟨_, rfl⟩
  have b63 : Bd v61 (0) (12) := (by rw [← ee62]; exact b3.2.1 31 (by decide))
  obtain ⟨v64, ee65⟩ : ∃ z : Int32, f1 33 = z := ⟨_, rfl⟩
  have b66 : Bd v64 (0) (12) := (by rw [← ee65]; exact b3.2.2.2.1 33 (by decide))
  obtain ⟨v67, ee68⟩ : ∃ z : Int32, f1 36 = z := ⟨_, rfl⟩
  have b69 : Bd v67 (0) (8) := (by rw [← ee68]; exact b3.2.2.2.2.1 36 (by decide))
  obtain ⟨v70, ee71⟩ : ∃ z : Int32, f1 38 = z := ⟨_, rfl⟩
  have b72 : Bd v70 (0) (3) := (by rw [← ee71]; exact b3.2.2.2.2.2.2.1 38 (by decide))
  obtain ⟨v73, ee74⟩ : ∃ z : Int32, f1 39 = z := ⟨_, rfl⟩
  have b75 : Bd v73 (0) (40) := (by rw [← ee74]; exact b3.2.2.2.2.2.2.2 39 (by decide))
  obtain ⟨f76, c77, b78⟩ := invM_6 hI
  obtain ⟨v79, ee80⟩ : ∃ z : Int32, f76 1 = z := ⟨_, rfl⟩
  have b81 : Bd v79 (0) (40000) := (by rw [← ee80]; exact b78 1)
  obtain ⟨v82, ee83⟩ : ∃ z : Int32, f76 0 = z := ⟨_, rfl⟩
  have b84 : Bd v82 (0) (40000) := (by rw [← ee83]; exact b78 0)
  obtain ⟨v85, ee86⟩ : ∃ z : Int32, f76 2 = z := ⟨_, rfl⟩
  have b87 : Bd v85 (0) (40000) := (by rw [← ee86]; exact b78 2)
  obtain ⟨v88, ee89⟩ : ∃ z : Int32, f76 3 = z := ⟨_, rfl⟩
  have b90 : Bd v88 (0) (40000) := (by rw [← ee89]; exact b78 3)
  obtain ⟨f91, c92, b93⟩ := invM_12 hI
  obtain ⟨f94, c95, b96⟩ := invM_9 hI
  refine lv_aload_n hx hb dX12_copyShore_0 rfl (lv_at hl 0 rfl) ?_
  obtain ⟨v97, v98, v100, v102, v104, v105, w106, v107, v109, v110, v111, v112, v114, v116, v118, v120, v122, v123, v124, c125, b99, b101, b103, b108, b113, b115, b117, b119, b121⟩ := invM_0 hI
  have c125 : S 0 = .inr (12, [.int v97, .ref (ad 1), .ref (ad 2), .ref (ad 3), .ref (ad 4), .ref (ad 5), .int v98, .int v100, .int v102, .int v104, .int v105, .long w106, .int v107, .int v109, .int v110, .int v111, .ref (ad 6), .ref (ad 7), .ref (ad 8), .ref (ad 9), .ref (ad 10), .ref (ad 11), .ref (ad 12), .ref (ad 13), .ref (ad 14), .ref (ad 15), .int v112, .int v114, .ref (ad 16), .int v116, .int v118, .int v120, .int v122, .int v123, .ref (ad 17), .ref (ad 18), .int v124, .ref (ad 19)]) := c125
  refine xget E hQ 0 (by decide) c125 rfl 16 (by decide) q1484 rfl dX12_copyShore_1 ?_
  refine lv_iconst (v := 1) hx hb dX12_copyShore_4 (by decide) ?_
  refine lv_iload_n hx hb dX12_copyShore_5 rfl (lv_at hl 1 rfl) ?_
  refine lv_iload_n hx hb dX12_copyShore_6 rfl (lv_at hl 2 rfl) ?_
  refine xcSv E hs hQ hml hl.1 (uCopyRow l g ad 20 hD S 6 (by decide) 5 (by decide) f76 1 1 0 (by decide) (by decide) (by decide) c77) mX12_copyRow q1743 rfl ⟨(Nat.le_of_ble_eq_true rfl), (Nat.le_of_ble_eq_true rfl)⟩ ⟨(Nat.le_of_ble_eq_true rfl), (Nat.le_of_ble_eq_true rfl)⟩ (Nat.le_of_ble_eq_true rfl) rfl dX12_copyShore_7 (fun S126 H locs eS126 hQ => ?_)
  have hI := invM_up_6 hI eS126 ⟨_, rfl, cp_b b78⟩
  have b128 : ∀ j, Bd ((cpF f76 1 1 0 1) j) (0) (40000) := cp_b b78
  have c127 : S126 6 = .inl (g.2 0, 5, .inl (cpF f76 1 1 0 1)) := up_at eS126 rfl
  refine lv_aload_n hx hb dX12_copyShore_10 rfl (lv_at hl 0 rfl) ?_
  have c129 : S126 0 = .inr (12, [.int v97, .ref (ad 1), .ref (ad 2), .ref (ad 3), .ref (ad 4), .ref (ad 5), .int v98, .int v100, .int v102, .int v104, .int v105, .long w106, .int v107, .int v109, .int v110, .int v111, .ref (ad 6), .ref (ad 7), .ref (ad 8), .ref (ad 9), .ref (ad 10), .ref (ad 11), .ref (ad 12), .ref (ad 13), .ref (ad 14), .ref (ad 15), .int v112, .int v114, .ref (ad 16), .int v116, .int v118, .int v120, .int v122, .int v123, .ref (ad 17), .ref (ad 18), .int v124, .ref (ad 19)]) := (up_ne eS126 (by decide) c125)
  refine xget E hQ 0 (by decide) c129 rfl 17 (by decide) q1485 rfl dX12_copyShore_11 ?_
  refine lv_bipush (v := 10) hx hb dX12_copyShore_14 (by decide) ?_
  refine lv_iload_n hx hb dX12_copyShore_16 rfl (lv_at hl 1 rfl) ?_
  refine lv_iload_n hx hb dX12_copyShore_17 rfl (lv_at hl 2 rfl) ?_
  have c130 : S126 7 = .inl (g.2 0, 50, .inl f1) := (up_ne eS126 (by decide) c2)
  refine xcSv E hs hQ hml hl.1 (uCopyRow l g ad 20 hD S126 7 (by decide) 50 (by decide) f1 10 1 0 (by decide) (by decide) (by decide) c130) mX12_copyRow q1743 rfl ⟨(Nat.le_of_ble_eq_true rfl), (Nat.le_of_ble_eq_true rfl)⟩ ⟨(Nat.le_of_ble_eq_true rfl), (Nat.le_of_ble_eq_true rfl)⟩ (Nat.le_of_ble_eq_true rfl) rfl dX12_copyShore_18 (fun S131 H locs eS131 hQ => ?_)
  have hI := invM_up_7 hI eS131 ⟨_, rfl, ⟨cp_m (q := 1) b3.1 (by decide), cp_m (q := 1) b3.2.1 (by decide), cp_m (q := 1) b3.2.2.1 (by decide), cp_m (q := 1) b3.2.2.2.1 (by decide), cp_m (q := 1) b3.2.2.2.2.1 (by decide), cp_m (q := 1) b3.2.2.2.2.2.1 (by decide), cp_m (q := 1) b3.2.2.2.2.2.2.1 (by decide), cp_m (q := 1) b3.2.2.2.2.2.2.2 (by decide)⟩⟩
  have b133 : (∀ j, j % 10 = 0 → Bd ((cpF f1 10 1 0 10) j) (0) (12)) ∧ (∀ j, j % 10 = 1 → Bd ((cpF f1 10 1 0 10) j) (0) (12)) ∧ (∀ j, j % 10 = 2 → Bd ((cpF f1 10 1 0 10) j) (0) (6)) ∧ (∀ j, j % 10 = 3 → Bd ((cpF f1 10 1 0 10) j) (0) (12)) ∧ (∀ j, j % 10 = 6 → Bd ((cpF f1 10 1 0 10) j) (0) (8)) ∧ (∀ j, j % 10 = 7 → Bd ((cpF f1 10 1 0 10) j) (0) (6)) ∧ (∀ j, j % 10 = 8 → Bd ((cpF f1 10 1 0 10) j) (0) (3)) ∧ (∀ j, j % 10 = 9 → Bd ((cpF f1 10 1 0 10) j) (0) (40)) := ⟨cp_m (q := 1) b3.1 (by decide), cp_m (q := 1) b3.2.1 (by decide), cp_m (q := 1) b3.2.2.1 (by decide), cp_m (q := 1) b3.2.2.2.1 (by decide), cp_m (q := 1) b3.2.2.2.2.1 (by decide), cp_m (q := 1) b3.2.2.2.2.2.1 (by decide), cp_m (q := 1) b3.2.2.2.2.2.2.1 (by decide), cp_m (q := 1) b3.2.2.2.2.2.2.2 (by decide)⟩
  have c132 : S131 7 = .inl (g.2 0, 50, .inl (cpF f1 10 1 0 10)) := up_at eS131 rfl
  refine lv_aload_n hx hb dX12_copyShore_21 rfl (lv_at hl 0 rfl) ?_
  have c134 : S131 0 = .inr (12, [.int v97, .ref (ad 1), .ref (ad 2), .ref (ad 3), .ref (ad 4), .ref (ad 5), .int v98, .int v100, .int v102, .int v104, .int v105, .long w106, .int v107, .int v109, .int v110, .int v111, .ref (ad 6), .ref (ad 7), .ref (ad 8), .ref (ad 9), .ref (ad 10), .ref (ad 11), .ref (ad 12), .ref (ad 13), .ref (ad 14), .ref (ad 15), .int v112, .int v114, .ref (ad 16), .int v116, .int v118, .int v120, .int v122, .int v123, .ref (ad 17), .ref (ad 18), .int v124, .ref (ad 19)]) := (up_ne eS131 (by decide) c129)
  refine xget E hQ 0 (by decide) c134 rfl 18 (by decide) q1486 rfl dX12_copyShore_22 ?_
  refine lv_bipush (v := 24) hx hb dX12_copyShore_25 (by decide) ?_
  refine lv_iload_n hx hb dX12_copyShore_27 rfl (lv_at hl 1 rfl) ?_
  refine lv_iload_n hx hb dX12_copyShore_28 rfl (lv_at hl 2 rfl) ?_
  obtain ⟨f135, c136⟩ := invM_8 hI
  refine xcSv E hs hQ hml hl.1 (uCopyRow l g ad 20 hD S131 8 (by decide) 120 (by decide) f135 24 1 0 (by decide) (by decide) (by decide) c136) mX12_copyRow q1743 rfl ⟨(Nat.le_of_ble_eq_true rfl), (Nat.le_of_ble_eq_true rfl)⟩ ⟨(Nat.le_of_ble_eq_true rfl), (Nat.le_of_ble_eq_true rfl)⟩ (Nat.le_of_ble_eq_true rfl) rfl dX12_copyShore_29 (fun S138 H locs eS138 hQ => ?_)
  have hI := invM_up_8 hI eS138 ⟨_, rfl⟩
  have c139 : S138 8 = .inl (g.2 0, 120, .inl (cpF f135 24 1 0 24)) := up_at eS138 rfl
  refine lv_aload_n hx hb dX12_copyShore_32 rfl (lv_at hl 0 rfl) ?_
  have c140 : S138 0 = .inr (12, [.int v97, .ref (ad 1), .ref (ad 2), .ref (ad 3), .ref (ad 4), .ref (ad 5), .int v98, .int v100, .int v102, .int v104, .int v105, .long w106, .int v107, .int v109, .int v110, .int v111, .ref (ad 6), .ref (ad 7), .ref (ad 8), .ref (ad 9), .ref (ad 10), .ref (ad 11), .ref (ad 12), .ref (ad 13), .ref (ad 14), .ref (ad 15), .int v112, .int v114, .ref (ad 16), .int v116, .int v118, .int v120, .int v122, .int v123, .ref (ad 17), .ref (ad 18), .int v124, .ref (ad 19)]) := (up_ne eS138 (by decide) c134)
  refine xget E hQ 0 (by decide) c140 rfl 19 (by decide) q1487 rfl dX12_copyShore_33 ?_
  refine lv_bipush (v := 24) hx hb dX12_copyShore_36 (by decide) ?_
  refine lv_iload_n hx hb dX12_copyShore_38 rfl (lv_at hl 1 rfl) ?_
  refine lv_iload_n hx hb dX12_copyShore_39 rfl (lv_at hl 2 rfl) ?_
  have c141 : S138 9 = .inl (g.2 0, 120, .inl f94) := (up_ne eS138 (by decide) (up_ne eS131 (by decide) (up_ne eS126 (by decide) c95)))
  refine xcSv E hs hQ hml hl.1 (uCopyRow l g ad 20 hD S138 9 (by decide) 120 (by decide) f94 24 1 0 (by decide) (by decide) (by decide) c141) mX12_copyRow q1743 rfl ⟨(Nat.le_of_ble_eq_true rfl), (Nat.le_of_ble_eq_true rfl)⟩ ⟨(Nat.le_of_ble_eq_true rfl), (Nat.le_of_ble_eq_true rfl)⟩ (Nat.le_of_ble_eq_true rfl) rfl dX12_copyShore_40 (fun S142 H locs eS142 hQ => ?_)
  have hI := invM_up_9 hI eS142 ⟨_, rfl, ⟨cp_m (q := 8) b96.1 (by decide), cp_m (q := 8) b96.2 (by decide)⟩⟩
  have b144 : (∀ j, j % 3 = 1 → Bd ((cpF f94 24 1 0 24) j) (0) (11)) ∧ (∀ j, j % 3 = 2 → Bd ((cpF f94 24 1 0 24) j) (0) (99)) := ⟨cp_m (q := 8) b96.1 (by decide), cp_m (q := 8) b96.2 (by decide)⟩
  have c143 : S142 9 = .inl (g.2 0, 120, .inl (cpF f94 24 1 0 24)) := up_at eS142 rfl
  refine lv_aload_n hx hb dX12_copyShore_43 rfl (lv_at hl 0 rfl) ?_
  have c145 : S142 0 = .inr (12, [.int v97, .ref (ad 1), .ref (ad 2), .ref (ad 3), .ref (ad 4), .ref (ad 5), .int v98, .int v100, .int v102, .int v104, .int v105, .long w106, .int v107, .int v109, .int v110, .int v111, .ref (ad 6), .ref (ad 7), .ref (ad 8), .ref (ad 9), .ref (ad 10), .ref (ad 11), .ref (ad 12), .ref (ad 13), .ref (ad 14), .ref (ad 15), .int v112, .int v114, .ref (ad 16), .int v116, .int v118, .int v120, .int v122, .int v123, .ref (ad 17), .ref (ad 18), .int v124, .ref (ad 19)]) := (up_ne eS142 (by decide) c140)
  refine xget E hQ 0 (by decide) c145 rfl 20 (by decide) q1488 rfl dX12_copyShore_44 ?_
  refine lv_bipush (v := 24) hx hb dX12_copyShore_47 (by decide) ?_
  refine lv_iload_n hx hb dX12_copyShore_49 rfl (lv_at hl 1 rfl) ?_
  refine lv_iload_n hx hb dX12_copyShore_50 rfl (lv_at hl 2 rfl) ?_
  obtain ⟨f146, c147⟩ := invM_10 hI
  refine xcSv E hs hQ hml hl.1 (uCopyRow l g ad 20 hD S142 10 (by decide) 120 (by decide) f146 24 1 0 (by decide) (by decide) (by decide) c147) mX12_copyRow q1743 rfl ⟨(Nat.le_of_ble_eq_true rfl), (Nat.le_of_ble_eq_true rfl)⟩ ⟨(Nat.le_of_ble_eq_true rfl), (Nat.le_of_ble_eq_true rfl)⟩ (Nat.le_of_ble_eq_true rfl) rfl dX12_copyShore_51 (fun S149 H locs eS149 hQ => ?_)
  have hI := invM_up_10 hI eS149 ⟨_, rfl⟩
  have c150 : S149 10 = .inl (g.2 0, 120, .inl (cpF f146 24 1 0 24)) := up_at eS149 rfl
  refine lv_aload_n hx hb dX12_copyShore_54 rfl (lv_at hl 0 rfl) ?_
  have c151 : S149 0 = .inr (12, [.int v97, .ref (ad 1), .ref (ad 2), .ref (ad 3), .ref (ad 4), .ref (ad 5), .int v98, .int v100, .int v102, .int v104, .int v105, .long w106, .int v107, .int v109, .int v110, .int v111, .ref (ad 6), .ref (ad 7), .ref (ad 8), .ref (ad 9), .ref (ad 10), .ref (ad 11), .ref (ad 12), .ref (ad 13), .ref (ad 14), .ref (ad 15), .int v112, .int v114, .ref (ad 16), .int v116, .int v118, .int v120, .int v122, .int v123, .ref (ad 17), .ref (ad 18), .int v124, .ref (ad 19)]) := (up_ne eS149 (by decide) c145)
  refine xget E hQ 0 (by decide) c151 rfl 21 (by decide) q1489 rfl dX12_copyShore_55 ?_
  refine lv_iconst (v := 3) hx hb dX12_copyShore_58 (by decide) ?_
  refine lv_iload_n hx hb dX12_copyShore_59 rfl (lv_at hl 1 rfl) ?_
  refine lv_iload_n hx hb dX12_copyShore_60 rfl (lv_at hl 2 rfl) ?_
  obtain ⟨f152, c153, b154⟩ := invM_11 hI
  refine xcSv E hs hQ hml hl.1 (uCopyRow l g ad 20 hD S149 11 (by decide) 15 (by decide) f152 3 1 0 (by decide) (by decide) (by decide) c153) mX12_copyRow q1743 rfl ⟨(Nat.le_of_ble_eq_true rfl), (Nat.le_of_ble_eq_true rfl)⟩ ⟨(Nat.le_of_ble_eq_true rfl), (Nat.le_of_ble_eq_true rfl)⟩ (Nat.le_of_ble_eq_true rfl) rfl dX12_copyShore_61 (fun S155 H locs eS155 hQ => ?_)
  have hI := invM_up_11 hI eS155 ⟨_, rfl, cp_b b154⟩
  have b157 : ∀ j, Bd ((cpF f152 3 1 0 3) j) (0) (11) := cp_b b154
  have c156 : S155 11 = .inl (g.2 0, 15, .inl (cpF f152 3 1 0 3)) := up_at eS155 rfl
  refine lv_aload_n hx hb dX12_copyShore_64 rfl (lv_at hl 0 rfl) ?_
  have c158 : S155 0 = .inr (12, [.int v97, .ref (ad 1), .ref (ad 2), .ref (ad 3), .ref (ad 4), .ref (ad 5), .int v98, .int v100, .int v102, .int v104, .int v105, .long w106, .int v107, .int v109, .int v110, .int v111, .ref (ad 6), .ref (ad 7), .ref (ad 8), .ref (ad 9), .ref (ad 10), .ref (ad 11), .ref (ad 12), .ref (ad 13), .ref (ad 14), .ref (ad 15), .int v112, .int v114, .ref (ad 16), .int v116, .int v118, .int v120, .int v122, .int v123, .ref (ad 17), .ref (ad 18), .int v124, .ref (ad 19)]) := (up_ne eS155 (by decide) c151)
  refine xget E hQ 0 (by decide) c158 rfl 22 (by decide) q1490 rfl dX12_copyShore_65 ?_
  refine lv_sipush (v := 160) hx hb dX12_copyShore_68 (by decide) ?_
  refine lv_iload_n hx hb dX12_copyShore_71 rfl (lv_at hl 1 rfl) ?_
  refine lv_iload_n hx hb dX12_copyShore_72 rfl (lv_at hl 2 rfl) ?_
  have c159 : S155 12 = .inl (g.2 0, 800, .inl f91) := (up_ne eS155 (by decide) (up_ne eS149 (by decide) (up_ne eS142 (by decide) (up_ne eS138 (by decide) (up_ne eS131 (by decide) (up_ne eS126 (by decide) c92))))))
  refine xcSv E hs hQ hml hl.1 (uCopyRow l g ad 20 hD S155 12 (by decide) 800 (by decide) f91 160 1 0 (by decide) (by decide) (by decide) c159) mX12_copyRow q1743 rfl ⟨(Nat.le_of_ble_eq_true rfl), (Nat.le_of_ble_eq_true rfl)⟩ ⟨(Nat.le_of_ble_eq_true rfl), (Nat.le_of_ble_eq_true rfl)⟩ (Nat.le_of_ble_eq_true rfl) rfl dX12_copyShore_73 (fun S160 H locs eS160 hQ => ?_)
  have hI := invM_up_12 hI eS160 ⟨_, rfl, ⟨cp_m (q := 40) b93.1 (by decide), cp_m (q := 40) b93.2 (by decide)⟩⟩
  have b162 : (∀ j, j % 4 = 1 → Bd ((cpF f91 160 1 0 160) j) (0) (7)) ∧ (∀ j, j % 4 = 2 → Bd ((cpF f91 160 1 0 160) j) (0) (400)) := ⟨cp_m (q := 40) b93.1 (by decide), cp_m (q := 40) b93.2 (by decide)⟩
  have c161 : S160 12 = .inl (g.2 0, 800, .inl (cpF f91 160 1 0 160)) := up_at eS160 rfl
  have q163 : elm (S 7) 10 = v4.toInt := (elm_of c2 10).trans (congrArg Int32.toInt (ee5))
  have c164 : S160 7 = .inl (g.2 0, 50, .inl (cpF f1 10 1 0 10)) := (up_ne eS160 (by decide) (up_ne eS155 (by decide) (up_ne eS149 (by decide) (up_ne eS142 (by decide) (up_ne eS138 (by decide) c132)))))
  have q165 : elm (S160 7) 0 = v4.toInt := (elm_of c164 0).trans (congrArg Int32.toInt (((show cpF f1 10 1 0 10 0 = f1 10 from rfl).trans (ee5))))
  have q166 : elm (S 7) 11 = v10.toInt := (elm_of c2 11).trans (congrArg Int32.toInt (ee11))
  have q167 : elm (S160 7) 1 = v10.toInt := (elm_of c164 1).trans (congrArg Int32.toInt (((show cpF f1 10 1 0 10 1 = f1 11 from rfl).trans (ee11))))
  have q168 : elm (S 7) 13 = v16.toInt := (elm_of c2 13).trans (congrArg Int32.toInt (ee17))
  have q169 : elm (S160 7) 3 = v16.toInt := (elm_of c164 3).trans (congrArg Int32.toInt (((show cpF f1 10 1 0 10 3 = f1 13 from rfl).trans (ee17))))
  have q170 : elm (S 7) 16 = v22.toInt := (elm_of c2 16).trans (congrArg Int32.toInt (ee23))
  have q171 : elm (S160 7) 6 = v22.toInt := (elm_of c164 6).trans (congrArg Int32.toInt (((show cpF f1 10 1 0 10 6 = f1 16 from rfl).trans (ee23))))
  have q172 : elm (S 7) 18 = v28.toInt := (elm_of c2 18).trans (congrArg Int32.toInt (ee29))
  have q173 : elm (S160 7) 8 = v28.toInt := (elm_of c164 8).trans (congrArg Int32.toInt (((show cpF f1 10 1 0 10 8 = f1 18 from rfl).trans (ee29))))
  have q174 : elm (S 7) 19 = v34.toInt := (elm_of c2 19).trans (congrArg Int32.toInt (ee35))
  have q175 : elm (S160 7) 9 = v34.toInt := (elm_of c164 9).trans (congrArg Int32.toInt (((show cpF f1 10 1 0 10 9 = f1 19 from rfl).trans (ee35))))
  have q176 : elm (S160 7) 10 = v4.toInt := (elm_of c164 10).trans (congrArg Int32.toInt (((show cpF f1 10 1 0 10 10 = f1 10 from rfl).trans (ee5))))
  have q177 : elm (S160 7) 11 = v10.toInt := (elm_of c164 11).trans (congrArg Int32.toInt (((show cpF f1 10 1 0 10 11 = f1 11 from rfl).trans (ee11))))
  have q178 : elm (S160 7) 13 = v16.toInt := (elm_of c164 13).trans (congrArg Int32.toInt (((show cpF f1 10 1 0 10 13 = f1 13 from rfl).trans (ee17))))
  have q179 : elm (S160 7) 16 = v22.toInt := (elm_of c164 16).trans (congrArg Int32.toInt (((show cpF f1 10 1 0 10 16 = f1 16 from rfl).trans (ee23))))
  have q180 : elm (S160 7) 18 = v28.toInt := (elm_of c164 18).trans (congrArg Int32.toInt (((show cpF f1 10 1 0 10 18 = f1 18 from rfl).trans (ee29))))
  have q181 : elm (S160 7) 19 = v34.toInt := (elm_of c164 19).trans (congrArg Int32.toInt (((show cpF f1 10 1 0 10 19 = f1 19 from rfl).trans (ee35))))
  have q182 : elm (S 7) 20 = v40.toInt := (elm_of c2 20).trans (congrArg Int32.toInt (ee41))
  have q183 : elm (S160 7) 20 = v40.toInt := (elm_of c164 20).trans (congrArg Int32.toInt (((show cpF f1 10 1 0 10 20 = f1 20 from rfl).trans (ee41))))
  have q184 : elm (S 7) 21 = v43.toInt := (elm_of c2 21).trans (congrArg Int32.toInt (ee44))
  have q185 : elm (S160 7) 21 = v43.toInt := (elm_of c164 21).trans (congrArg Int32.toInt (((show cpF f1 10 1 0 10 21 = f1 21 from rfl).trans (ee44))))
  have q186 : elm (S 7) 23 = v46.toInt := (elm_of c2 23).trans (congrArg Int32.toInt (ee47))
  have q187 : elm (S160 7) 23 = v46.toInt := (elm_of c164 23).trans (congrArg Int32.toInt (((show cpF f1 10 1 0 10 23 = f1 23 from rfl).trans (ee47))))
  have q188 : elm (S 7) 26 = v49.toInt := (elm_of c2 26).trans (congrArg Int32.toInt (ee50))
  have q189 : elm (S160 7) 26 = v49.toInt := (elm_of c164 26).trans (congrArg Int32.toInt (((show cpF f1 10 1 0 10 26 = f1 26 from rfl).trans (ee50))))
  have q190 : elm (S 7) 28 = v52.toInt := (elm_of c2 28).trans (congrArg Int32.toInt (ee53))
  have q191 : elm (S160 7) 28 = v52.toInt := (elm_of c164 28).trans (congrArg Int32.toInt (((show cpF f1 10 1 0 10 28 = f1 28 from rfl).trans (ee53))))
  have q192 : elm (S 7) 29 = v55.toInt := (elm_of c2 29).trans (congrArg Int32.toInt (ee56))
  have q193 : elm (S160 7) 29 = v55.toInt := (elm_of c164 29).trans (congrArg Int32.toInt (((show cpF f1 10 1 0 10 29 = f1 29 from rfl).trans (ee56))))
  have q194 : elm (S 7) 30 = v58.toInt := (elm_of c2 30).trans (congrArg Int32.toInt (ee59))
  have q195 : elm (S160 7) 30 = v58.toInt := (elm_of c164 30).trans (congrArg Int32.toInt (((show cpF f1 10 1 0 10 30 = f1 30 from rfl).trans (ee59))))
  have q196 : elm (S 7) 31 = v61.toInt := (elm_of c2 31).trans (congrArg Int32.toInt (ee62))
  have q197 : elm (S160 7) 31 = v61.toInt := (elm_of c164 31).trans (congrArg Int32.toInt (((show cpF f1 10 1 0 10 31 = f1 31 from rfl).trans (ee62))))
  have q198 : elm (S 7) 33 = v64.toInt := (elm_of c2 33).trans (congrArg Int32.toInt (ee65))
  have q199 : elm (S160 7) 33 = v64.toInt := (elm_of c164 33).trans (congrArg Int32.toInt (((show cpF f1 10 1 0 10 33 = f1 33 from rfl).trans (ee65))))
  have q200 : elm (S 7) 36 = v67.toInt := (elm_of c2 36).trans (congrArg Int32.toInt (ee68))
  have q201 : elm (S160 7) 36 = v67.toInt := (elm_of c164 36).trans (congrArg Int32.toInt (((show cpF f1 10 1 0 10 36 = f1 36 from rfl).trans (ee68))))
  have q202 : elm (S 7) 38 = v70.toInt := (elm_of c2 38).trans (congrArg Int32.toInt (ee71))
  have q203 : elm (S160 7) 38 = v70.toInt := (elm_of c164 38).trans (congrArg Int32.toInt (((show cpF f1 10 1 0 10 38 = f1 38 from rfl).trans (ee71))))
  have q204 : elm (S 7) 39 = v73.toInt := (elm_of c2 39).trans (congrArg Int32.toInt (ee74))
  have q205 : elm (S160 7) 39 = v73.toInt := (elm_of c164 39).trans (congrArg Int32.toInt (((show cpF f1 10 1 0 10 39 = f1 39 from rfl).trans (ee74))))
  have q206 : elm (S 6) 1 = v79.toInt := (elm_of c77 1).trans (congrArg Int32.toInt (ee80))
  have c207 : S160 6 = .inl (g.2 0, 5, .inl (cpF f76 1 1 0 1)) := (up_ne eS160 (by decide) (up_ne eS155 (by decide) (up_ne eS149 (by decide) (up_ne eS142 (by decide) (up_ne eS138 (by decide) (up_ne eS131 (by decide) c127))))))
  have q208 : elm (S160 6) 0 = v79.toInt := (elm_of c207 0).trans (congrArg Int32.toInt (((show cpF f76 1 1 0 1 0 = f76 1 from rfl).trans (ee80))))
  have q209 : elm (S160 6) 1 = v79.toInt := (elm_of c207 1).trans (congrArg Int32.toInt (((show cpF f76 1 1 0 1 1 = f76 1 from rfl).trans (ee80))))
  have q210 : elm (S 6) 2 = v85.toInt := (elm_of c77 2).trans (congrArg Int32.toInt (ee86))
  have q211 : elm (S160 6) 2 = v85.toInt := (elm_of c207 2).trans (congrArg Int32.toInt (((show cpF f76 1 1 0 1 2 = f76 2 from rfl).trans (ee86))))
  have q212 : elm (S 6) 3 = v88.toInt := (elm_of c77 3).trans (congrArg Int32.toInt (ee89))
  have q213 : elm (S160 6) 3 = v88.toInt := (elm_of c207 3).trans (congrArg Int32.toInt (((show cpF f76 1 1 0 1 3 = f76 3 from rfl).trans (ee89))))
  have c214 : S160 9 = .inl (g.2 0, 120, .inl (cpF f94 24 1 0 24)) := (up_ne eS160 (by decide) (up_ne eS155 (by decide) (up_ne eS149 (by decide) c143)))
  exact xrv E hr hlk hQ (⟨hI, (up_o (up_o (up_o (up_o (up_o (up_o (up_o o_refl eS126 (by decide)) eS131 (by decide)) eS138 (by decide)) eS142 (by decide)) eS149 (by decide)) eS155 (by decide)) eS160 (by decide)), ⟨by omega, by omega⟩, ⟨by omega, by omega⟩, ⟨by omega, by omega⟩, ⟨by omega, by omega⟩, ⟨by omega, by omega⟩, ⟨by omega, by omega⟩, ⟨by omega, by omega⟩, ⟨by omega, by omega⟩, ⟨by omega, by omega⟩, ⟨by omega, by omega⟩, ⟨by omega, by omega⟩, ⟨by omega, by omega⟩, ⟨by omega, by omega⟩, ⟨by omega, by omega⟩, ⟨by omega, by omega⟩, ⟨by omega, by omega⟩, ⟨by omega, by omega⟩, ⟨by omega, by omega⟩, ⟨by omega, by omega⟩, ⟨by omega, by omega⟩, ⟨by omega, by omega⟩, ⟨by omega, by omega⟩, ⟨by omega, by omega⟩, ⟨by omega, by omega⟩, ⟨by omega, by omega⟩, ⟨by omega, by omega⟩, ⟨by omega, by omega⟩, ⟨by omega, by omega⟩, (at_cpb c2 c92 c164 c161 b3.2.2.2.2.2.2.2 hAT1), (at_cpo c2 c92 c164 c161 b3.2.2.2.2.2.2.2 (by decide) hAT1), (at_cpo c2 c92 c164 c161 b3.2.2.2.2.2.2.2 (by decide) hAT2), (at_cpo c2 c92 c164 c161 b3.2.2.2.2.2.2.2 (by decide) hAT3), (ht_cpb c2 c95 c164 c214 b3.2.2.2.2.1 hHT1), (ht_cpo c2 c95 c164 c214 b3.2.2.2.2.1 (by decide) hHT1), (ht_cpo c2 c95 c164 c214 b3.2.2.2.2.1 (by decide) hHT2), (ht_cpo c2 c95 c164 c214 b3.2.2.2.2.1 (by decide) hHT3)⟩) dX12_copyShore_76
set_option maxHeartbeats 4000000 in
set_option maxRecDepth 100000 in
theorem gX12_copyShore_2_0 (l : Launch) (g : GG) (ad : Nat → Nat) (hD : Dj ad 20) (S : SS) (hI : InvM g ad S) (hAT0 : ATp (S 7) (S 12) 0) (hAT1 : ATp (S 7) (S 12) 1) (hAT2 : ATp (S 7) (S 12) 2) (hAT3 : ATp (S 7) (S 12) 3) (hHT0 : HTp (S 7) (S 9) 0) (hHT1 : HTp (S 7) (S 9) 1) (hHT2 : HTp (S 7) (S 9) 2) (hHT3 : HTp (S 7) (S 9) 3) : Met l yX12_copyShore (wG (.code yX12_copyShore cX12_copyShore 3 none)) (Rm 1) (XPre g ad 20 S [.ref (ad 0), .int 2, .int 0]) (va_Qv (fun S' => InvM g ad S' ∧ (∀ j, j ∉ ([6, 7, 8, 9, 10, 11, 12] : List Nat) → S' j = S j) ∧ (0 ≤ elm (S 7) 20 + (-1) * elm (S' 7) 0 ∧ 0 ≤ elm (S' 7) 0 + (-1) * elm (S 7) 20) ∧ (0 ≤ elm (S 7) 21 + (-1) * elm (S' 7) 1 ∧ 0 ≤ elm (S' 7) 1 + (-1) * elm (S 7) 21) ∧ (0 ≤ elm (S 7) 23 + (-1) * elm (S' 7) 3 ∧ 0 ≤ elm (S' 7) 3 + (-1) * elm (S 7) 23) ∧ (0 ≤ elm (S 7) 26 + (-1) * elm (S' 7) 6 ∧ 0 ≤ elm (S' 7) 6 + (-1) * elm (S 7) 26) ∧ (0 ≤ elm (S 7) 28 + (-1) * elm (S' 7) 8 ∧ 0 ≤ elm (S' 7) 8 + (-1) * elm (S 7) 28) ∧ (0 ≤ elm (S 7) 29 + (-1) * elm (S' 7) 9 ∧ 0 ≤ elm (S' 7) 9 + (-1) * elm (S 7) 29) ∧ (0 ≤ elm (S 7) 10 + (-1) * elm (S' 7) 10 ∧ 0 ≤ elm (S' 7) 10 + (-1) * elm (S 7) 10) ∧ (0 ≤ elm (S 7) 11 + (-1) * elm (S' 7) 11 ∧ 0 ≤ elm (S' 7) 11 + (-1) * elm (S 7) 11) ∧ (0 ≤ elm (S 7) 13 + (-1) * elm (S' 7) 13 ∧ 0 ≤ elm (S' 7) 13 + (-1) * elm (S 7) 13) ∧ (0 ≤ elm (S 7) 16 + (-1) * elm (S' 7) 16 ∧ 0 ≤ elm (S' 7) 16 + (-1) * elm (S 7) 16) ∧ (0 ≤ elm (S 7) 18 + (-1) * elm (S' 7) 18 ∧ 0 ≤ elm (S' 7) 18 + (-1) * elm (S 7) 18) ∧ (0 ≤ elm (S 7) 19 + (-1) * elm (S' 7) 19 ∧ 0 ≤ elm (S' 7) 19 + (-1) * elm (S 7) 19) ∧ (0 ≤ elm (S 7) 20 + (-1) * elm (S' 7) 20 ∧ 0 ≤ elm (S' 7) 20 + (-1) * elm (S 7) 20) ∧ (0 ≤ elm (S 7) 21 + (-1) * elm (S' 7) 21 ∧ 0 ≤ elm (S' 7) 21 + (-1) * elm (S 7) 21) ∧ (0 ≤ elm (S 7) 23 + (-1) * elm (S' 7) 23 ∧ 0 ≤ elm (S' 7) 23 + (-1) * elm (S 7) 23) ∧ (0 ≤ elm (S 7) 26 + (-1) * elm (S' 7) 26 ∧ 0 ≤ elm (S' 7) 26 + (-1) * elm (S 7) 26) ∧ (0 ≤ elm (S 7) 28 + (-1) * elm (S' 7) 28 ∧ 0 ≤ elm (S' 7) 28 + (-1) * elm (S 7) 28) ∧ (0 ≤ elm (S 7) 29 + (-1) * elm (S' 7) 29 ∧ 0 ≤ elm (S' 7) 29 + (-1) * elm (S 7) 29) ∧ (0 ≤ elm (S 7) 30 + (-1) * elm (S' 7) 30 ∧ 0 ≤ elm (S' 7) 30 + (-1) * elm (S 7) 30) ∧ (0 ≤ elm (S 7) 31 + (-1) * elm (S' 7) 31 ∧ 0 ≤ elm (S' 7) 31 + (-1) * elm (S 7) 31) ∧ (0 ≤ elm (S 7) 33 + (-1) * elm (S' 7) 33 ∧ 0 ≤ elm (S' 7) 33 + (-1) * elm (S 7) 33) ∧ (0 ≤ elm (S 7) 36 + (-1) * elm (S' 7) 36 ∧ 0 ≤ elm (S' 7) 36 + (-1) * elm (S 7) 36) ∧ (0 ≤ elm (S 7) 38 + (-1) * elm (S' 7) 38 ∧ 0 ≤ elm (S' 7) 38 + (-1) * elm (S 7) 38) ∧ (0 ≤ elm (S 7) 39 + (-1) * elm (S' 7) 39 ∧ 0 ≤ elm (S' 7) 39 + (-1) * elm (S 7) 39) ∧ (0 ≤ elm (S 6) 2 + (-1) * elm (S' 6) 0 ∧ 0 ≤ elm (S' 6) 0 + (-1) * elm (S 6) 2) ∧ (0 ≤ elm (S 6) 1 + (-1) * elm (S' 6) 1 ∧ 0 ≤ elm (S' 6) 1 + (-1) * elm (S 6) 1) ∧ (0 ≤ elm (S 6) 2 + (-1) * elm (S' 6) 2 ∧ 0 ≤ elm (S' 6) 2 + (-1) * elm (S 6) 2) ∧ (0 ≤ elm (S 6) 3 + (-1) * elm (S' 6) 3 ∧ 0 ≤ elm (S' 6) 3 + (-1) * elm (S 6) 3) ∧ (ATp (S' 7) (S' 12) 0) ∧ (ATp (S' 7) (S' 12) 1) ∧ (ATp (S' 7) (S' 12) 2) ∧ (ATp (S' 7) (S' 12) 3) ∧ (HTp (S' 7) (S' 9) 0) ∧ (HTp (S' 7) (S' 9) 1) ∧ (HTp (S' 7) (S' 9) 2) ∧ (HTp (S' 7) (S' 9) 3)) (QB g ad 20) (FA ad 20)) 0 0 (FA ad 20) := by
  refine xmet cX12_copyShore "EbbWreckModel" (by decide) rfl (Nat.le_of_ble_eq_true rfl) (fun p e s m below meth c E hr hlk hml hQ ls hl => ?_)
  have hx := E.1
  have hb := E.2.1
  have hs : Sp ad 20 (FA ad 20) := Sp.fa hD
  have hl : lv_has ls 3 [(0, .ref (ad 0)), (1, .int 2), (2, .int 0)] := hl
  obtain ⟨f1, c2, b3⟩ := invM_7 hI
  obtain ⟨v4, ee5⟩ : ∃ z : Int32, f1 20 = z := ⟨_, rfl⟩
  have b6 : Bd v4 (0) (12) := (by rw [← ee5]; exact b3.1 20 (by decide))
  obtain ⟨v7, ee8⟩ : ∃ z : Int32, f1 0 = z := ⟨_, rfl⟩
  have b9 : Bd v7 (0) (12) := (by rw [← ee8]; exact b3.1 0 (by decide))
  obtain ⟨v10, ee11⟩ : ∃ z : Int32, f1 21 = z := ⟨_, rfl⟩
  have b12 : Bd v10 (0) (12) := (by rw [← ee11]; exact b3.2.1 21 (by decide))
  obtain ⟨v13, ee14⟩ : ∃ z : Int32, f1 1 = z := ⟨_, rfl⟩
  have b15 : Bd v13 (0) (12) := (by rw [← ee14]; exact b3.2.1 1 (by decide))
  obtain ⟨v16, ee17⟩ : ∃ z : Int32, f1 23 = z := ⟨_, rfl⟩
  have b18 : Bd v16 (0) (12) := (by rw [← ee17]; exact b3.2.2.2.1 23 (by decide))
  obtain ⟨v19, ee20⟩ : ∃ z : Int32, f1 3 = z := ⟨_, rfl⟩
  have b21 : Bd v19 (0) (12) := (by rw [← ee20]; exact b3.2.2.2.1 3 (by decide))
  obtain ⟨v22, ee23⟩ : ∃ z : Int32, f1 26 = z := ⟨_, rfl⟩
  have b24 : Bd v22 (0) (8) := (by rw [← ee23]; exact b3.2.2.2.2.1 26 (by decide))
  obtain ⟨v25, ee26⟩ : ∃ z : Int32, f1 6 = z := ⟨_, rfl⟩
  have b27 : Bd v25 (0) (8) := (by rw [← ee26]; exact b3.2.2.2.2.1 6 (by decide))
  obtain ⟨v28, ee29⟩ : ∃ z : Int32, f1 28 = z := ⟨_, rfl⟩
  have b30 : Bd v28 (0) (3) := (by rw [← ee29]; exact b3.2.2.2.2.2.2.1 28 (by decide))
  obtain ⟨v31, ee32⟩ : ∃ z : Int32, f1 8 = z := ⟨_, rfl⟩
  have b33 : Bd v31 (0) (3) := (by rw [← ee32]; exact b3.2.2.2.2.2.2.1 8 (by decide))
  obtain ⟨v34, ee35⟩ : ∃ z : Int32, f1 29 = z := ⟨_, rfl⟩
  have b36 : Bd v34 (0) (40) := (by rw [← ee35]; exact b3.2.2.2.2.2.2.2 29 (by decide))
  obtain ⟨v37, ee38⟩ : ∃ z : Int32, f1 9 = z := ⟨_, rfl⟩
  have b39 : Bd v37 (0) (40) := (by rw [← ee38]; exact b3.2.2.2.2.2.2.2 9 (by decide))
  obtain ⟨v40, ee41⟩ : ∃ z : Int32, f1 10 = z := ⟨_, rfl⟩
  have b42 : Bd v40 (0) (12) := (by rw [← ee41]; exact b3.1 10 (by decide))
  obtain ⟨v43, ee44⟩ : ∃ z : Int32, f1 11 = z := ⟨_, rfl⟩
  have b45 : Bd v43 (0) (12) := (by rw [← ee44]; exact b3.2.1 11 (by decide))
  obtain ⟨v46, ee47⟩ : ∃ z : Int32, f1 13 = z := ⟨_, rfl⟩
  have b48 : Bd v46 (0) (12) := (by rw [← ee47]; exact b3.2.2.2.1 13 (by decide))
  obtain ⟨v49, ee50⟩ : ∃ z : Int32, f1 16 = z := ⟨_, rfl⟩
  have b51 : Bd v49 (0) (8) := (by rw [← ee50]; exact b3.2.2.2.2.1 16 (by decide))
  obtain ⟨v52, ee53⟩ : ∃ z : Int32, f1 18 = z := ⟨_, rfl⟩
  have b54 : Bd v52 (0) (3) := (by rw [← ee53]; exact b3.2.2.2.2.2.2.1 18 (by decide))
  obtain ⟨v55, ee56⟩ : ∃ z : Int32, f1 19 = z := ⟨_, rfl⟩
  have b57 : Bd v55 (0) (40) := (by rw [← ee56]; exact b3.2.2.2.2.2.2.2 19 (by decide))
  obtain ⟨v58, ee59⟩ : ∃ z : Int32, f1 30 = z := ⟨_, rfl⟩
  have b60 : Bd v58 (0) (12) := (by rw [← ee59]; exact b3.1 30 (by decide))
  obtain ⟨v61, ee62⟩ : ∃ z : Int32, f1 31 = z := ⟨_, rfl⟩
  have b63 : Bd v61 (0) (12) := (by rw [← ee62]; exact b3.2.1 31 (by decide))
  obtain ⟨v64, ee65⟩ : ∃ z : Int32, f1 33 = z := ⟨_, rfl⟩
  have b66 : Bd v64 (0) (12) := (by rw [← ee65]; exact b3.2.2.2.1 33 (by decide))
  obtain ⟨v67, ee68⟩ : ∃ z : Int32, f1 36 = z := ⟨_, rfl⟩
  have b69 : Bd v67 (0) (8) := (by rw [← ee68]; exact b3.2.2.2.2.1 36 (by decide))
  obtain ⟨v70, ee71⟩ : ∃ z : Int32, f1 38 = z := ⟨_, rfl⟩
  have b72 : Bd v70 (0) (3) := (by rw [← ee71]; exact b3.2.2.2.2.2.2.1 38 (by decide))
  obtain ⟨v73, ee74⟩ : ∃ z : Int32, f1 39 = z := ⟨_, rfl⟩
  have b75 : Bd v73 (0) (40) := (by rw [← ee74]; exact b3.2.2.2.2.2.2.2 39 (by decide))
  obtain ⟨f76, c77, b78⟩ := invM_6 hI
  obtain ⟨v79, ee80⟩ : ∃ z : Int32, f76 2 = z := ⟨_, rfl⟩
  have b81 : Bd v79 (0) (40000) := (by rw [← ee80]; exact b78 2)
  obtain ⟨v82, ee83⟩ : ∃ z : Int32, f76 0 = z := ⟨_, rfl⟩
  have b84 : Bd v82 (0) (40000) := (by rw [← ee83]; exact b78 0)
  obtain ⟨v85, ee86⟩ : ∃ z : Int32, f76 1 = z := ⟨_, rfl⟩
  have b87 : Bd v85 (0) (40000) := (by rw [← ee86]; exact b78 1)
  obtain ⟨v88, ee89⟩ : ∃ z : Int32, f76 3 = z := ⟨_, rfl⟩
  have b90 : Bd v88 (0) (40000) := (by rw [← ee89]; exact b78 3)
  obtain ⟨f91, c92, b93⟩ := invM_12 hI
  obtain ⟨f94, c95, b96⟩ := invM_9 hI
  refine lv_aload_n hx hb dX12_copyShore_0 rfl (lv_at hl 0 rfl) ?_
  obtain ⟨v97, v98, v100, v102, v104, v105, w106, v107, v109, v110, v111, v112, v114, v116, v118, v120, v122, v123, v124, c125, b99, b101, b103, b108, b113, b115, b117, b119, b121⟩ := invM_0 hI
  have c125 : S 0 = .inr (12, [.int v97, .ref (ad 1), .ref (ad 2), .ref (ad 3), .ref (ad 4), .ref (ad 5), .int v98, .int v100, .int v102, .int v104, .int v105, .long w106, .int v107, .int v109, .int v110, .int v111, .ref (ad 6), .ref (ad 7), .ref (ad 8), .ref (ad 9), .ref (ad 10), .ref (ad 11), .ref (ad 12), .ref (ad 13), .ref (ad 14), .ref (ad 15), .int v112, .int v114, .ref (ad 16), .int v116, .int v118, .int v120, .int v122, .int v123, .ref (ad 17), .ref (ad 18), .int v124, .ref (ad 19)]) := c125
  refine xget E hQ 0 (by decide) c125 rfl 16 (by decide) q1484 rfl dX12_copyShore_1 ?_
  refine lv_iconst (v := 1) hx hb dX12_copyShore_4 (by decide) ?_
  refine lv_iload_n hx hb dX12_copyShore_5 rfl (lv_at hl 1 rfl) ?_
  refine lv_iload_n hx hb dX12_copyShore_6 rfl (lv_at hl 2 rfl) ?_
  refine xcSv E hs hQ hml hl.1 (uCopyRow l g ad 20 hD S 6 (by decide) 5 (by decide) f76 1 2 0 (by decide) (by decide) (by decide) c77) mX12_copyRow q1743 rfl ⟨(Nat.le_of_ble_eq_true rfl), (Nat.le_of_ble_eq_true rfl)⟩ ⟨(Nat.le_of_ble_eq_true rfl), (Nat.le_of_ble_eq_true rfl)⟩ (Nat.le_of_ble_eq_true rfl) rfl dX12_copyShore_7 (fun S126 H locs eS126 hQ => ?_)
  have hI := invM_up_6 hI eS126 ⟨_, rfl, cp_b b78⟩
  have b128 : ∀ j, Bd ((cpF f76 1 2 0 1) j) (0) (40000) := cp_b b78
  have c127 : S126 6 = .inl (g.2 0, 5, .inl (cpF f76 1 2 0 1)) := up_at eS126 rfl
  refine lv_aload_n hx hb dX12_copyShore_10 rfl (lv_at hl 0 rfl) ?_
  have c129 : S126 0 = .inr (12, [.int v97, .ref (ad 1), .ref (ad 2), .ref (ad 3), .ref (ad 4), .ref (ad 5), .int v98, .int v100, .int v102, .int v104, .int v105, .long w106, .int v107, .int v109, .int v110, .int v111, .ref (ad 6), .ref (ad 7), .ref (ad 8), .ref (ad 9), .ref (ad 10), .ref (ad 11), .ref (ad 12), .ref (ad 13), .ref (ad 14), .ref (ad 15), .int v112, .int v114, .ref (ad 16), .int v116, .int v118, .int v120, .int v122, .int v123, .ref (ad 17), .ref (ad 18), .int v124, .ref (ad 19)]) := (up_ne eS126 (by decide) c125)
  refine xget E hQ 0 (by decide) c129 rfl 17 (by decide) q1485 rfl dX12_copyShore_11 ?_
  refine lv_bipush (v := 10) hx hb dX12_copyShore_14 (by decide) ?_
  refine lv_iload_n hx hb dX12_copyShore_16 rfl (lv_at hl 1 rfl) ?_
  refine lv_iload_n hx hb dX12_copyShore_17 rfl (lv_at hl 2 rfl) ?_
  have c130 : S126 7 = .inl (g.2 0, 50, .inl f1) := (up_ne eS126 (by decide) c2)
  refine xcSv E hs hQ hml hl.1 (uCopyRow l g ad 20 hD S126 7 (by decide) 50 (by decide) f1 10 2 0 (by decide) (by decide) (by decide) c130) mX12_copyRow q1743 rfl ⟨(Nat.le_of_ble_eq_true rfl), (Nat.le_of_ble_eq_true rfl)⟩ ⟨(Nat.le_of_ble_eq_true rfl), (Nat.le_of_ble_eq_true rfl)⟩ (Nat.le_of_ble_eq_true rfl) rfl dX12_copyShore_18 (fun S131 H locs eS131 hQ => ?_)
  have hI := invM_up_7 hI eS131 ⟨_, rfl, ⟨cp_m (q := 1) b3.1 (by decide), cp_m (q := 1) b3.2.1 (by decide), cp_m (q := 1) b3.2.2.1 (by decide), cp_m (q := 1) b3.2.2.2.1 (by decide), cp_m (q := 1) b3.2.2.2.2.1 (by decide), cp_m (q := 1) b3.2.2.2.2.2.1 (by decide), cp_m (q := 1) b3.2.2.2.2.2.2.1 (by decide), cp_m (q := 1) b3.2.2.2.2.2.2.2 (by decide)⟩⟩
  have b133 : (∀ j, j % 10 = 0 → Bd ((cpF f1 10 2 0 10) j) (0) (12)) ∧ (∀ j, j % 10 = 1 → Bd ((cpF f1 10 2 0 10) j) (0) (12)) ∧ (∀ j, j % 10 = 2 → Bd ((cpF f1 10 2 0 10) j) (0) (6)) ∧ (∀ j, j % 10 = 3 → Bd ((cpF f1 10 2 0 10) j) (0) (12)) ∧ (∀ j, j % 10 = 6 → Bd ((cpF f1 10 2 0 10) j) (0) (8)) ∧ (∀ j, j % 10 = 7 → Bd ((cpF f1 10 2 0 10) j) (0) (6)) ∧ (∀ j, j % 10 = 8 → Bd ((cpF f1 10 2 0 10) j) (0) (3)) ∧ (∀ j, j % 10 = 9 → Bd ((cpF f1 10 2 0 10) j) (0) (40)) := ⟨cp_m (q := 1) b3.1 (by decide), cp_m (q := 1) b3.2.1 (by decide), cp_m (q := 1) b3.2.2.1 (by decide), cp_m (q := 1) b3.2.2.2.1 (by decide), cp_m (q := 1) b3.2.2.2.2.1 (by decide), cp_m (q := 1) b3.2.2.2.2.2.1 (by decide), cp_m (q := 1) b3.2.2.2.2.2.2.1 (by decide), cp_m (q := 1) b3.2.2.2.2.2.2.2 (by decide)⟩
  have c132 : S131 7 = .inl (g.2 0, 50, .inl (cpF f1 10 2 0 10)) := up_at eS131 rfl
  refine lv_aload_n hx hb dX12_copyShore_21 rfl (lv_at hl 0 rfl) ?_
  have c134 : S131 0 = .inr (12, [.int v97, .ref (ad 1), .ref (ad 2), .ref (ad 3), .ref (ad 4), .ref (ad 5), .int v98, .int v100, .int v102, .int v104, .int v105, .long w106, .int v107, .int v109, .int v110, .int v111, .ref (ad 6), .ref (ad 7), .ref (ad 8), .ref (ad 9), .ref (ad 10), .ref (ad 11), .ref (ad 12), .ref (ad 13), .ref (ad 14), .ref (ad 15), .int v112, .int v114, .ref (ad 16), .int v116, .int v118, .int v120, .int v122, .int v123, .ref (ad 17), .ref (ad 18), .int v124, .ref (ad 19)]) := (up_ne eS131 (by decide) c129)
  refine xget E hQ 0 (by decide) c134 rfl 18 (by decide) q1486 rfl dX12_copyShore_22 ?_
  refine lv_bipush (v := 24) hx hb dX12_copyShore_25 (by decide) ?_
  refine lv_iload_n hx hb dX12_copyShore_27 rfl (lv_at hl 1 rfl) ?_
  refine lv_iload_n hx hb dX12_copyShore_28 rfl (lv_at hl 2 rfl) ?_
  obtain ⟨f135, c136⟩ := invM_8 hI
  refine xcSv E hs hQ hml hl.1 (uCopyRow l g ad 20 hD S131 8 (by decide) 120 (by decide) f135 24 2 0 (by decide) (by decide) (by decide) c136) mX12_copyRow q1743 rfl ⟨(Nat.le_of_ble_eq_true rfl), (Nat.le_of_ble_eq_true rfl)⟩ ⟨(Nat.le_of_ble_eq_true rfl), (Nat.le_of_ble_eq_true rfl)⟩ (Nat.le_of_ble_eq_true rfl) rfl dX12_copyShore_29 (fun S138 H locs eS138 hQ => ?_)
  have hI := invM_up_8 hI eS138 ⟨_, rfl⟩
  have c139 : S138 8 = .inl (g.2 0, 120, .inl (cpF f135 24 2 0 24)) := up_at eS138 rfl
  refine lv_aload_n hx hb dX12_copyShore_32 rfl (lv_at hl 0 rfl) ?_
  have c140 : S138 0 = .inr (12, [.int v97, .ref (ad 1), .ref (ad 2), .ref (ad 3), .ref (ad 4), .ref (ad 5), .int v98, .int v100, .int v102, .int v104, .int v105, .long w106, .int v107, .int v109, .int v110, .int v111, .ref (ad 6), .ref (ad 7), .ref (ad 8), .ref (ad 9), .ref (ad 10), .ref (ad 11), .ref (ad 12), .ref (ad 13), .ref (ad 14), .ref (ad 15), .int v112, .int v114, .ref (ad 16), .int v116, .int v118, .int v120, .int v122, .int v123, .ref (ad 17), .ref (ad 18), .int v124, .ref (ad 19)]) := (up_ne eS138 (by decide) c134)
  refine xget E hQ 0 (by decide) c140 rfl 19 (by decide) q1487 rfl dX12_copyShore_33 ?_
  refine lv_bipush (v := 24) hx hb dX12_copyShore_36 (by decide) ?_
  refine lv_iload_n hx hb dX12_copyShore_38 rfl (lv_at hl 1 rfl) ?_
  refine lv_iload_n hx hb dX12_copyShore_39 rfl (lv_at hl 2 rfl) ?_
  have c141 : S138 9 = .inl (g.2 0, 120, .inl f94) := (up_ne eS138 (by decide) (up_ne eS131 (by decide) (up_ne eS126 (by decide) c95)))
  refine xcSv E hs hQ hml hl.1 (uCopyRow l g ad 20 hD S138 9 (by decide) 120 (by decide) f94 24 2 0 (by decide) (by decide) (by decide) c141) mX12_copyRow q1743 rfl ⟨(Nat.le_of_ble_eq_true rfl), (Nat.le_of_ble_eq_true rfl)⟩ ⟨(Nat.le_of_ble_eq_true rfl), (Nat.le_of_ble_eq_true rfl)⟩ (Nat.le_of_ble_eq_true rfl) rfl dX12_copyShore_40 (fun S142 H locs eS142 hQ => ?_)
  have hI := invM_up_9 hI eS142 ⟨_, rfl, ⟨cp_m (q := 8) b96.1 (by decide), cp_m (q := 8) b96.2 (by decide)⟩⟩
  have b144 : (∀ j, j % 3 = 1 → Bd ((cpF f94 24 2 0 24) j) (0) (11)) ∧ (∀ j, j % 3 = 2 → Bd ((cpF f94 24 2 0 24) j) (0) (99)) := ⟨cp_m (q := 8) b96.1 (by decide), cp_m (q := 8) b96.2 (by decide)⟩
  have c143 : S142 9 = .inl (g.2 0, 120, .inl (cpF f94 24 2 0 24)) := up_at eS142 rfl
  refine lv_aload_n hx hb dX12_copyShore_43 rfl (lv_at hl 0 rfl) ?_
  have c145 : S142 0 = .inr (12, [.int v97, .ref (ad 1), .ref (ad 2), .ref (ad 3), .ref (ad 4), .ref (ad 5), .int v98, .int v100, .int v102, .int v104, .int v105, .long w106, .int v107, .int v109, .int v110, .int v111, .ref (ad 6), .ref (ad 7), .ref (ad 8), .ref (ad 9), .ref (ad 10), .ref (ad 11), .ref (ad 12), .ref (ad 13), .ref (ad 14), .ref (ad 15), .int v112, .int v114, .ref (ad 16), .int v116, .int v118, .int v120, .int v122, .int v123, .ref (ad 17), .ref (ad 18), .int v124, .ref (ad 19)]) := (up_ne eS142 (by decide) c140)
  refine xget E hQ 0 (by decide) c145 rfl 20 (by decide) q1488 rfl dX12_copyShore_44 ?_
  refine lv_bipush (v := 24) hx hb dX12_copyShore_47 (by decide) ?_
  refine lv_iload_n hx hb dX12_copyShore_49 rfl (lv_at hl 1 rfl) ?_
  refine lv_iload_n hx hb dX12_copyShore_50 rfl (lv_at hl 2 rfl) ?_
  obtain ⟨f146, c147⟩ := invM_10 hI
  refine xcSv E hs hQ hml hl.1 (uCopyRow l g ad 20 hD S142 10 (by decide) 120 (by decide) f146 24 2 0 (by decide) (by decide) (by decide) c147) mX12_copyRow q1743 rfl ⟨(Nat.le_of_ble_eq_true rfl), (Nat.le_of_ble_eq_true rfl)⟩ ⟨(Nat.le_of_ble_eq_true rfl), (Nat.le_of_ble_eq_true rfl)⟩ (Nat.le_of_ble_eq_true rfl) rfl dX12_copyShore_51 (fun S149 H locs eS149 hQ => ?_)
  have hI := invM_up_10 hI eS149 ⟨_, rfl⟩
  have c150 : S149 10 = .inl (g.2 0, 120, .inl (cpF f146 24 2 0 24)) := up_at eS149 rfl
  refine lv_aload_n hx hb dX12_copyShore_54 rfl (lv_at hl 0 rfl) ?_
  have c151 : S149 0 = .inr (12, [.int v97, .ref (ad 1), .ref (ad 2), .ref (ad 3), .ref (ad 4), .ref (ad 5), .int v98, .int v100, .int v102, .int v104, .int v105, .long w106, .int v107, .int v109, .int v110, .int v111, .ref (ad 6), .ref (ad 7), .ref (ad 8), .ref (ad 9), .ref (ad 10), .ref (ad 11), .ref (ad 12), .ref (ad 13), .ref (ad 14), .ref (ad 15), .int v112, .int v114, .ref (ad 16), .int v116, .int v118, .int v120, .int v122, .int v123, .ref (ad 17), .ref (ad 18), .int v124, .ref (ad 19)]) := (up_ne eS149 (by decide) c145)
  refine xget E hQ 0 (by decide) c151 rfl 21 (by decide) q1489 rfl dX12_copyShore_55 ?_
  refine lv_iconst (v := 3) hx hb dX12_copyShore_58 (by decide) ?_
  refine lv_iload_n hx hb dX12_copyShore_59 rfl (lv_at hl 1 rfl) ?_
  refine lv_iload_n hx hb dX12_copyShore_60 rfl (lv_at hl 2 rfl) ?_
  obtain ⟨f152, c153, b154⟩ := invM_11 hI
  refine xcSv E hs hQ hml hl.1 (uCopyRow l g ad 20 hD S149 11 (by decide) 15 (by decide) f152 3 2 0 (by decide) (by decide) (by decide) c153) mX12_copyRow q1743 rfl ⟨(Nat.le_of_ble_eq_true rfl), (Nat.le_of_ble_eq_true rfl)⟩ ⟨(Nat.le_of_ble_eq_true rfl), (Nat.le_of_ble_eq_true rfl)⟩ (Nat.le_of_ble_eq_true rfl) rfl dX12_copyShore_61 (fun S155 H locs eS155 hQ => ?_)
  have hI := invM_up_11 hI eS155 ⟨_, rfl, cp_b b154⟩
  have b157 : ∀ j, Bd ((cpF f152 3 2 0 3) j) (0) (11) := cp_b b154
  have c156 : S155 11 = .inl (g.2 0, 15, .inl (cpF f152 3 2 0 3)) := up_at eS155 rfl
  refine lv_aload_n hx hb dX12_copyShore_64 rfl (lv_at hl 0 rfl) ?_
  have c158 : S155 0 = .inr (12, [.int v97, .ref (ad 1), .ref (ad 2), .ref (ad 3), .ref (ad 4), .ref (ad 5), .int v98, .int v100, .int v102, .int v104, .int v105, .long w106, .int v107, .int v109, .int v110, .int v111, .ref (ad 6), .ref (ad 7), .ref (ad 8), .ref (ad 9), .ref (ad 10), .ref (ad 11), .ref (ad 12), .ref (ad 13), .ref (ad 14), .ref (ad 15), .int v112, .int v114, .ref (ad 16), .int v116, .int v118, .int v120, .int v122, .int v123, .ref (ad 17), .ref (ad 18), .int v124, .ref (ad 19)]) := (up_ne eS155 (by decide) c151)
  refine xget E hQ 0 (by decide) c158 rfl 22 (by decide) q1490 rfl dX12_copyShore_65 ?_
  refine lv_sipush (v := 160) hx hb dX12_copyShore_68 (by decide) ?_
  refine lv_iload_n hx hb dX12_copyShore_71 rfl (lv_at hl 1 rfl) ?_
  refine lv_iload_n hx hb dX12_copyShore_72 rfl (lv_at hl 2 rfl) ?_
  have c159 : S155 12 = .inl (g.2 0, 800, .inl f91) := (up_ne eS155 (by decide) (up_ne eS149 (by decide) (up_ne eS142 (by decide) (up_ne eS138 (by decide) (up_ne eS131 (by decide) (up_ne eS126 (by decide) c92))))))
  refine xcSv E hs hQ hml hl.1 (uCopyRow l g ad 20 hD S155 12 (by decide) 800 (by decide) f91 160 2 0 (by decide) (by decide) (by decide) c159) mX12_copyRow q1743 rfl ⟨(Nat.le_of_ble_eq_true rfl), (Nat.le_of_ble_eq_true rfl)⟩ ⟨(Nat.le_of_ble_eq_true rfl), (Nat.le_of_ble_eq_true rfl)⟩ (Nat.le_of_ble_eq_true rfl) rfl dX12_copyShore_73 (fun S160 H locs eS160 hQ => ?_)
  have hI := invM_up_12 hI eS160 ⟨_, rfl, ⟨cp_m (q := 40) b93.1 (by decide), cp_m (q := 40) b93.2 (by decide)⟩⟩
  have b162 : (∀ j, j % 4 = 1 → Bd ((cpF f91 160 2 0 160) j) (0) (7)) ∧ (∀ j, j % 4 = 2 → Bd ((cpF f91 160 2 0 160) j) (0) (400)) := ⟨cp_m (q := 40) b93.1 (by decide), cp_m (q := 40) b93.2 (by decide)⟩
  have c161 : S160 12 = .inl (g.2 0, 800, .inl (cpF f91 160 2 0 160)) := up_at eS160 rfl
  have q163 : elm (S 7) 20 = v4.toInt := (elm_of c2 20).trans (congrArg Int32.toInt (ee5))
  have c164 : S160 7 = .inl (g.2 0, 50, .inl (cpF f1 10 2 0 10)) := (up_ne eS160 (by decide) (up_ne eS155 (by decide) (up_ne eS149 (by decide) (up_ne eS142 (by decide) (up_ne eS138 (by decide) c132)))))
  have q165 : elm (S160 7) 0 = v4.toInt := (elm_of c164 0).trans (congrArg Int32.toInt (((show cpF f1 10 2 0 10 0 = f1 20 from rfl).trans (ee5))))
  have q166 : elm (S 7) 21 = v10.toInt := (elm_of c2 21).trans (congrArg Int32.toInt (ee11))
  have q167 : elm (S160 7) 1 = v10.toInt := (elm_of c164 1).trans (congrArg Int32.toInt (((show cpF f1 10 2 0 10 1 = f1 21 from rfl).trans (ee11))))
  have q168 : elm (S 7) 23 = v16.toInt := (elm_of c2 23).trans (congrArg Int32.toInt (ee17))
  have q169 : elm (S160 7) 3 = v16.toInt := (elm_of c164 3).trans (congrArg Int32.toInt (((show cpF f1 10 2 0 10 3 = f1 23 from rfl).trans (ee17))))
  have q170 : elm (S 7) 26 = v22.toInt := (elm_of c2 26).trans (congrArg Int32.toInt (ee23))
  have q171 : elm (S160 7) 6 = v22.toInt := (elm_of c164 6).trans (congrArg Int32.toInt (((show cpF f1 10 2 0 10 6 = f1 26 from rfl).trans (ee23))))
  have q172 : elm (S 7) 28 = v28.toInt := (elm_of c2 28).trans (congrArg Int32.toInt (ee29))
  have q173 : elm (S160 7) 8 = v28.toInt := (elm_of c164 8).trans (congrArg Int32.toInt (((show cpF f1 10 2 0 10 8 = f1 28 from rfl).trans (ee29))))
  have q174 : elm (S 7) 29 = v34.toInt := (elm_of c2 29).trans (congrArg Int32.toInt (ee35))
  have q175 : elm (S160 7) 9 = v34.toInt := (elm_of c164 9).trans (congrArg Int32.toInt (((show cpF f1 10 2 0 10 9 = f1 29 from rfl).trans (ee35))))
  have q176 : elm (S 7) 10 = v40.toInt := (elm_of c2 10).trans (congrArg Int32.toInt (ee41))
  have q177 : elm (S160 7) 10 = v40.toInt := (elm_of c164 10).trans (congrArg Int32.toInt (((show cpF f1 10 2 0 10 10 = f1 10 from rfl).trans (ee41))))
  have q178 : elm (S 7) 11 = v43.toInt := (elm_of c2 11).trans (congrArg Int32.toInt (ee44))
  have q179 : elm (S160 7) 11 = v43.toInt := (elm_of c164 11).trans (congrArg Int32.toInt (((show cpF f1 10 2 0 10 11 = f1 11 from rfl).trans (ee44))))
  have q180 : elm (S 7) 13 = v46.toInt := (elm_of c2 13).trans (congrArg Int32.toInt (ee47))
  have q181 : elm (S160 7) 13 = v46.toInt := (elm_of c164 13).trans (congrArg Int32.toInt (((show cpF f1 10 2 0 10 13 = f1 13 from rfl).trans (ee47))))
  have q182 : elm (S 7) 16 = v49.toInt := (elm_of c2 16).trans (congrArg Int32.toInt (ee50))
  have q183 : elm (S160 7) 16 = v49.toInt := (elm_of c164 16).trans (congrArg Int32.toInt (((show cpF f1 10 2 0 10 16 = f1 16 from rfl).trans (ee50))))
  have q184 : elm (S 7) 18 = v52.toInt := (elm_of c2 18).trans (congrArg Int32.toInt (ee53))
  have q185 : elm (S160 7) 18 = v52.toInt := (elm_of c164 18).trans (congrArg Int32.toInt (((show cpF f1 10 2 0 10 18 = f1 18 from rfl).trans (ee53))))
  have q186 : elm (S 7) 19 = v55.toInt := (elm_of c2 19).trans (congrArg Int32.toInt (ee56))
  have q187 : elm (S160 7) 19 = v55.toInt := (elm_of c164 19).trans (congrArg Int32.toInt (((show cpF f1 10 2 0 10 19 = f1 19 from rfl).trans (ee56))))
  have q188 : elm (S160 7) 20 = v4.toInt := (elm_of c164 20).trans (congrArg Int32.toInt (((show cpF f1 10 2 0 10 20 = f1 20 from rfl).trans (ee5))))
  have q189 : elm (S160 7) 21 = v10.toInt := (elm_of c164 21).trans (congrArg Int32.toInt (((show cpF f1 10 2 0 10 21 = f1 21 from rfl).trans (ee11))))
  have q190 : elm (S160 7) 23 = v16.toInt := (elm_of c164 23).trans (congrArg Int32.toInt (((show cpF f1 10 2 0 10 23 = f1 23 from rfl).trans (ee17))))
  have q191 : elm (S160 7) 26 = v22.toInt := (elm_of c164 26).trans (congrArg Int32.toInt (((show cpF f1 10 2 0 10 26 = f1 26 from rfl).trans (ee23))))
  have q192 : elm (S160 7) 28 = v28.toInt := (elm_of c164 28).trans (congrArg Int32.toInt (((show cpF f1 10 2 0 10 28 = f1 28 from rfl).trans (ee29))))
  have q193 : elm (S160 7) 29 = v34.toInt := (elm_of c164 29).trans (congrArg Int32.toInt (((show cpF f1 10 2 0 10 29 = f1 29 from rfl).trans (ee35))))
  have q194 : elm (S 7) 30 = v58.toInt := (elm_of c2 30).trans (congrArg Int32.toInt (ee59))
  have q195 : elm (S160 7) 30 = v58.toInt := (elm_of c164 30).trans (congrArg Int32.toInt (((show cpF f1 10 2 0 10 30 = f1 30 from rfl).trans (ee59))))
  have q196 : elm (S 7) 31 = v61.toInt := (elm_of c2 31).trans (congrArg Int32.toInt (ee62))
  have q197 : elm (S160 7) 31 = v61.toInt := (elm_of c164 31).trans (congrArg Int32.toInt (((show cpF f1 10 2 0 10 31 = f1 31 from rfl).trans (ee62))))
  have q198 : elm (S 7) 33 = v64.toInt := (elm_of c2 33).trans (congrArg Int32.toInt (ee65))
  have q199 : elm (S160 7) 33 = v64.toInt := (elm_of c164 33).trans (congrArg Int32.toInt (((show cpF f1 10 2 0 10 33 = f1 33 from rfl).trans (ee65))))
  have q200 : elm (S 7) 36 = v67.toInt := (elm_of c2 36).trans (congrArg Int32.toInt (ee68))
  have q201 : elm (S160 7) 36 = v67.toInt := (elm_of c164 36).trans (congrArg Int32.toInt (((show cpF f1 10 2 0 10 36 = f1 36 from rfl).trans (ee68))))
  have q202 : elm (S 7) 38 = v70.toInt := (elm_of c2 38).trans (congrArg Int32.toInt (ee71))
  have q203 : elm (S160 7) 38 = v70.toInt := (elm_of c164 38).trans (congrArg Int32.toInt (((show cpF f1 10 2 0 10 38 = f1 38 from rfl).trans (ee71))))
  have q204 : elm (S 7) 39 = v73.toInt := (elm_of c2 39).trans (congrArg Int32.toInt (ee74))
  have q205 : elm (S160 7) 39 = v73.toInt := (elm_of c164 39).trans (congrArg Int32.toInt (((show cpF f1 10 2 0 10 39 = f1 39 from rfl).trans (ee74))))
  have q206 : elm (S 6) 2 = v79.toInt := (elm_of c77 2).trans (congrArg Int32.toInt (ee80))
  have c207 : S160 6 = .inl (g.2 0, 5, .inl (cpF f76 1 2 0 1)) := (up_ne eS160 (by decide) (up_ne eS155 (by decide) (up_ne eS149 (by decide) (up_ne eS142 (by decide) (up_ne eS138 (by decide) (up_ne eS131 (by decide) c127))))))
  have q208 : elm (S160 6) 0 = v79.toInt := (elm_of c207 0).trans (congrArg Int32.toInt (((show cpF f76 1 2 0 1 0 = f76 2 from rfl).trans (ee80))))
  have q209 : elm (S 6) 1 = v85.toInt := (elm_of c77 1).trans (congrArg Int32.toInt (ee86))
  have q210 : elm (S160 6) 1 = v85.toInt := (elm_of c207 1).trans (congrArg Int32.toInt (((show cpF f76 1 2 0 1 1 = f76 1 from rfl).trans (ee86))))
  have q211 : elm (S160 6) 2 = v79.toInt := (elm_of c207 2).trans (congrArg Int32.toInt (((show cpF f76 1 2 0 1 2 = f76 2 from rfl).trans (ee80))))
  have q212 : elm (S 6) 3 = v88.toInt := (elm_of c77 3).trans (congrArg Int32.toInt (ee89))
  have q213 : elm (S160 6) 3 = v88.toInt := (elm_of c207 3).trans (congrArg Int32.toInt (((show cpF f76 1 2 0 1 3 = f76 3 from rfl).trans (ee89))))
  have c214 : S160 9 = .inl (g.2 0, 120, .inl (cpF f94 24 2 0 24)) := (up_ne eS160 (by decide) (up_ne eS155 (by decide) (up_ne eS149 (by decide) c143)))
  exact xrv E hr hlk hQ (⟨hI, (up_o (up_o (up_o (up_o (up_o (up_o (up_o o_refl eS126 (by decide)) eS131 (by decide)) eS138 (by decide)) eS142 (by decide)) eS149 (by decide)) eS155 (by decide)) eS160 (by decide)), ⟨by omega, by omega⟩, ⟨by omega, by omega⟩, ⟨by omega, by omega⟩, ⟨by omega, by omega⟩, ⟨by omega, by omega⟩, ⟨by omega, by omega⟩, ⟨by omega, by omega⟩, ⟨by omega, by omega⟩, ⟨by omega, by omega⟩, ⟨by omega, by omega⟩, ⟨by omega, by omega⟩, ⟨by omega, by omega⟩, ⟨by omega, by omega⟩, ⟨by omega, by omega⟩, ⟨by omega, by omega⟩, ⟨by omega, by omega⟩, ⟨by omega, by omega⟩, ⟨by omega, by omega⟩, ⟨by omega, by omega⟩, ⟨by omega, by omega⟩, ⟨by omega, by omega⟩, ⟨by omega, by omega⟩, ⟨by omega, by omega⟩, ⟨by omega, by omega⟩, ⟨by omega, by omega⟩, ⟨by omega, by omega⟩, ⟨by omega, by omega⟩, ⟨by omega, by omega⟩, (at_cpb c2 c92 c164 c161 b3.2.2.2.2.2.2.2 hAT2), (at_cpo c2 c92 c164 c161 b3.2.2.2.2.2.2.2 (by decide) hAT1), (at_cpo c2 c92 c164 c161 b3.2.2.2.2.2.2.2 (by decide) hAT2), (at_cpo c2 c92 c164 c161 b3.2.2.2.2.2.2.2 (by decide) hAT3), (ht_cpb c2 c95 c164 c214 b3.2.2.2.2.1 hHT2), (ht_cpo c2 c95 c164 c214 b3.2.2.2.2.1 (by decide) hHT1), (ht_cpo c2 c95 c164 c214 b3.2.2.2.2.1 (by decide) hHT2), (ht_cpo c2 c95 c164 c214 b3.2.2.2.2.1 (by decide) hHT3)⟩) dX12_copyShore_76
set_option maxHeartbeats 4000000 in
set_option maxRecDepth 100000 in
theorem gX12_copyShore_3_0 (l : Launch) (g : GG) (ad : Nat → Nat) (hD : Dj ad 20) (S : SS) (hI : InvM g ad S) (hAT0 : ATp (S 7) (S 12) 0) (hAT1 : ATp (S 7) (S 12) 1) (hAT2 : ATp (S 7) (S 12) 2) (hAT3 : ATp (S 7) (S 12) 3) (hHT0 : HTp (S 7) (S 9) 0) (hHT1 : HTp (S 7) (S 9) 1) (hHT2 : HTp (S 7) (S 9) 2) (hHT3 : HTp (S 7) (S 9) 3) : Met l yX12_copyShore (wG (.code yX12_copyShore cX12_copyShore 3 none)) (Rm 1) (XPre g ad 20 S [.ref (ad 0), .int 3, .int 0]) (va_Qv (fun S' => InvM g ad S' ∧ (∀ j, j ∉ ([6, 7, 8, 9, 10, 11, 12] : List Nat) → S' j = S j) ∧ (0 ≤ elm (S 7) 30 + (-1) * elm (S' 7) 0 ∧ 0 ≤ elm (S' 7) 0 + (-1) * elm (S 7) 30) ∧ (0 ≤ elm (S 7) 31 + (-1) * elm (S' 7) 1 ∧ 0 ≤ elm (S' 7) 1 + (-1) * elm (S 7) 31) ∧ (0 ≤ elm (S 7) 33 + (-1) * elm (S' 7) 3 ∧ 0 ≤ elm (S' 7) 3 + (-1) * elm (S 7) 33) ∧ (0 ≤ elm (S 7) 36 + (-1) * elm (S' 7) 6 ∧ 0 ≤ elm (S' 7) 6 + (-1) * elm (S 7) 36) ∧ (0 ≤ elm (S 7) 38 + (-1) * elm (S' 7) 8 ∧ 0 ≤ elm (S' 7) 8 + (-1) * elm (S 7) 38) ∧ (0 ≤ elm (S 7) 39 + (-1) * elm (S' 7) 9 ∧ 0 ≤ elm (S' 7) 9 + (-1) * elm (S 7) 39) ∧ (0 ≤ elm (S 7) 10 + (-1) * elm (S' 7) 10 ∧ 0 ≤ elm (S' 7) 10 + (-1) * elm (S 7) 10) ∧ (0 ≤ elm (S 7) 11 + (-1) * elm (S' 7) 11 ∧ 0 ≤ elm (S' 7) 11 + (-1) * elm (S 7) 11) ∧ (0 ≤ elm (S 7) 13 + (-1) * elm (S' 7) 13 ∧ 0 ≤ elm (S' 7) 13 + (-1) * elm (S 7) 13) ∧ (0 ≤ elm (S 7) 16 + (-1) * elm (S' 7) 16 ∧ 0 ≤ elm (S' 7) 16 + (-1) * elm (S 7) 16) ∧ (0 ≤ elm (S 7) 18 + (-1) * elm (S' 7) 18 ∧ 0 ≤ elm (S' 7) 18 + (-1) * elm (S 7) 18) ∧ (0 ≤ elm (S 7) 19 + (-1) * elm (S' 7) 19 ∧ 0 ≤ elm (S' 7) 19 + (-1) * elm (S 7) 19) ∧ (0 ≤ elm (S 7) 20 + (-1) * elm (S' 7) 20 ∧ 0 ≤ elm (S' 7) 20 + (-1) * elm (S 7) 20) ∧ (0 ≤ elm (S 7) 21 + (-1) * elm (S' 7) 21 ∧ 0 ≤ elm (S' 7) 21 + (-1) * elm (S 7) 21) ∧ (0 ≤ elm (S 7) 23 + (-1) * elm (S' 7) 23 ∧ 0 ≤ elm (S' 7) 23 + (-1) * elm (S 7) 23) ∧ (0 ≤ elm (S 7) 26 + (-1) * elm (S' 7) 26 ∧ 0 ≤ elm (S' 7) 26 + (-1) * elm (S 7) 26) ∧ (0 ≤ elm (S 7) 28 + (-1) * elm (S' 7) 28 ∧ 0 ≤ elm (S' 7) 28 + (-1) * elm (S 7) 28) ∧ (0 ≤ elm (S 7) 29 + (-1) * elm (S' 7) 29 ∧ 0 ≤ elm (S' 7) 29 + (-1) * elm (S 7) 29) ∧ (0 ≤ elm (S 7) 30 + (-1) * elm (S' 7) 30 ∧ 0 ≤ elm (S' 7) 30 + (-1) * elm (S 7) 30) ∧ (0 ≤ elm (S 7) 31 + (-1) * elm (S' 7) 31 ∧ 0 ≤ elm (S' 7) 31 + (-1) * elm (S 7) 31) ∧ (0 ≤ elm (S 7) 33 + (-1) * elm (S' 7) 33 ∧ 0 ≤ elm (S' 7) 33 + (-1) * elm (S 7) 33) ∧ (0 ≤ elm (S 7) 36 + (-1) * elm (S' 7) 36 ∧ 0 ≤ elm (S' 7) 36 + (-1) * elm (S 7) 36) ∧ (0 ≤ elm (S 7) 38 + (-1) * elm (S' 7) 38 ∧ 0 ≤ elm (S' 7) 38 + (-1) * elm (S 7) 38) ∧ (0 ≤ elm (S 7) 39 + (-1) * elm (S' 7) 39 ∧ 0 ≤ elm (S' 7) 39 + (-1) * elm (S 7) 39) ∧ (0 ≤ elm (S 6) 3 + (-1) * elm (S' 6) 0 ∧ 0 ≤ elm (S' 6) 0 + (-1) * elm (S 6) 3) ∧ (0 ≤ elm (S 6) 1 + (-1) * elm (S' 6) 1 ∧ 0 ≤ elm (S' 6) 1 + (-1) * elm (S 6) 1) ∧ (0 ≤ elm (S 6) 2 + (-1) * elm (S' 6) 2 ∧ 0 ≤ elm (S' 6) 2 + (-1) * elm (S 6) 2) ∧ (0 ≤ elm (S 6) 3 + (-1) * elm (S' 6) 3 ∧ 0 ≤ elm (S' 6) 3 + (-1) * elm (S 6) 3) ∧ (ATp (S' 7) (S' 12) 0) ∧ (ATp (S' 7) (S' 12) 1) ∧ (ATp (S' 7) (S' 12) 2) ∧ (ATp (S' 7) (S' 12) 3) ∧ (HTp (S' 7) (S' 9) 0) ∧ (HTp (S' 7) (S' 9) 1) ∧ (HTp (S' 7) (S' 9) 2) ∧ (HTp (S' 7) (S' 9) 3)) (QB g ad 20) (FA ad 20)) 0 0 (FA ad 20) := by
  refine xmet cX12_copyShore "EbbWreckModel" (by decide) rfl (Nat.le_of_ble_eq_true rfl) (fun p e s m below meth c E hr hlk hml hQ ls hl => ?_)
  have hx := E.1
  have hb := E.2.1
  have hs : Sp ad 20 (FA ad 20) := Sp.fa hD
  have hl : lv_has ls 3 [(0, .ref (ad 0)), (1, .int 3), (2, .int 0)] := hl
  obtain ⟨f1, c2, b3⟩ := invM_7 hI
  obtain ⟨v4, ee5⟩ : ∃ z : Int32, f1 30 = z := ⟨_, rfl⟩
  have b6 : Bd v4 (0) (12) := (by rw [← ee5]; exact b3.1 30 (by decide))
  obtain ⟨v7, ee8⟩ : ∃ z : Int32, f1 0 = z := ⟨_, rfl⟩
  have b9 : Bd v7 (0) (12) := (by rw [← ee8]; exact b3.1 0 (by decide))
  obtain ⟨v10, ee11⟩ : ∃ z : Int32, f1 31 = z := ⟨_, rfl⟩
  have b12 : Bd v10 (0) (12) := (by rw [← ee11]; exact b3.2.1 31 (by decide))
  obtain ⟨v13, ee14⟩ : ∃ z : Int32, f1 1 = z := ⟨_, rfl⟩
  have b15 : Bd v13 (0) (12) := (by rw [← ee14]; exact b3.2.1 1 (by decide))
  obtain ⟨v16, ee17⟩ : ∃ z : Int32, f1 33 = z := ⟨_, rfl⟩
  have b18 : Bd v16 (0) (12) := (by rw [← ee17]; exact b3.2.2.2.1 33 (by decide))
  obtain ⟨v19, ee20⟩ : ∃ z : Int32, f1 3 = z := ⟨_, rfl⟩
  have b21 : Bd v19 (0) (12) := (by rw [← ee20]; exact b3.2.2.2.1 3 (by decide))
  obtain ⟨v22, ee23⟩ : ∃ z : Int32, f1 36 = z := ⟨_, rfl⟩
  have b24 : Bd v22 (0) (8) := (by rw [← ee23]; exact b3.2.2.2.2.1 36 (by decide))
  obtain ⟨v25, ee26⟩ : ∃ z : Int32, f1 6 = z := ⟨_, rfl⟩
  have b27 : Bd v25 (0) (8) := (by rw [← ee26]; exact b3.2.2.2.2.1 6 (by decide))
  obtain ⟨v28, ee29⟩ : ∃ z : Int32, f1 38 = z := ⟨_, rfl⟩
  have b30 : Bd v28 (0) (3) := (by rw [← ee29]; exact b3.2.2.2.2.2.2.1 38 (by decide))
  obtain ⟨v31, ee32⟩ : ∃ z : Int32, f1 8 = z := ⟨_, rfl⟩
  have b33 : Bd v31 (0) (3) := (by rw [← ee32]; exact b3.2.2.2.2.2.2.1 8 (by decide))
  obtain ⟨v34, ee35⟩ : ∃ z : Int32, f1 39 = z := ⟨_, rfl⟩
  have b36 : Bd v34 (0) (40) := (by rw [← ee35]; exact b3.2.2.2.2.2.2.2 39 (by decide))
  obtain ⟨v37, ee38⟩ : ∃ z : Int32, f1 9 = z := ⟨_, rfl⟩
  have b39 : Bd v37 (0) (40) := (by rw [← ee38]; exact b3.2.2.2.2.2.2.2 9 (by decide))
  obtain ⟨v40, ee41⟩ : ∃ z : Int32, f1 10 = z := ⟨_, rfl⟩
  have b42 : Bd v40 (0) (12) := (by rw [← ee41]; exact b3.1 10 (by decide))
  obtain ⟨v43, ee44⟩ : ∃ z : Int32, f1 11 = z := ⟨_, rfl⟩
  have b45 : Bd v43 (0) (12) := (by rw [← ee44]; exact b3.2.1 11 (by decide))
  obtain ⟨v46, ee47⟩ : ∃ z : Int32, f1 13 = z := ⟨_, rfl⟩
  have b48 : Bd v46 (0) (12) := (by rw [← ee47]; exact b3.2.2.2.1 13 (by decide))
  obtain ⟨v49, ee50⟩ : ∃ z : Int32, f1 16 = z := ⟨_, rfl⟩
  have b51 : Bd v49 (0) (8) := (by rw [← ee50]; exact b3.2.2.2.2.1 16 (by decide))
  obtain ⟨v52, ee53⟩ : ∃ z : Int32, f1 18 = z := ⟨_, rfl⟩
  have b54 : Bd v52 (0) (3) := (by rw [← ee53]; exact b3.2.2.2.2.2.2.1 18 (by decide))
  obtain ⟨v55, ee56⟩ : ∃ z : Int32, f1 19 = z := ⟨_, rfl⟩
  have b57 : Bd v55 (0) (40) := (by rw [← ee56]; exact b3.2.2.2.2.2.2.2 19 (by decide))
  obtain ⟨v58, ee59⟩ : ∃ z : Int32, f1 20 = z := ⟨_, rfl⟩
  have b60 : Bd v58 (0) (12) := (by rw [← ee59]; exact b3.1 20 (by decide))
  obtain ⟨v61, ee62⟩ : ∃ z : Int32, f1 21 = z := ⟨_, rfl⟩
  have b63 : Bd v61 (0) (12) := (by rw [← ee62]; exact b3.2.1 21 (by decide))
  obtain ⟨v64, ee65⟩ : ∃ z : Int32, f1 23 = z := ⟨_, rfl⟩
  have b66 : Bd v64 (0) (12) := (by rw [← ee65]; exact b3.2.2.2.1 23 (by decide))
  obtain ⟨v67, ee68⟩ : ∃ z : Int32, f1 26 = z := ⟨_, rfl⟩
  have b69 : Bd v67 (0) (8) := (by rw [← ee68]; exact b3.2.2.2.2.1 26 (by decide))
  obtain ⟨v70, ee71⟩ : ∃ z : Int32, f1 28 = z := ⟨_, rfl⟩
  have b72 : Bd v70 (0) (3) := (by rw [← ee71]; exact b3.2.2.2.2.2.2.1 28 (by decide))
  obtain ⟨v73, ee74⟩ : ∃ z : Int32, f1 29 = z := ⟨_, rfl⟩
  have b75 : Bd v73 (0) (40) := (by rw [← ee74]; exact b3.2.2.2.2.2.2.2 29 (by decide))
  obtain ⟨f76, c77, b78⟩ := invM_6 hI
  obtain ⟨v79, ee80⟩ : ∃ z : Int32, f76 3 = z := ⟨_, rfl⟩
  have b81 : Bd v79 (0) (40000) := (by rw [← ee80]; exact b78 3)
  obtain ⟨v82, ee83⟩ : ∃ z : Int32, f76 0 = z := ⟨_, rfl⟩
  have b84 : Bd v82 (0) (40000) := (by rw [← ee83]; exact b78 0)
  obtain ⟨v85, ee86⟩ : ∃ z : Int32, f76 1 = z := ⟨_, rfl⟩
  have b87 : Bd v85 (0) (40000) := (by rw [← ee86]; exact b78 1)
  obtain ⟨v88, ee89⟩ : ∃ z : Int32, f76 2 = z := ⟨_, rfl⟩
  have b90 : Bd v88 (0) (40000) := (by rw [← ee89]; exact b78 2)
  obtain ⟨f91, c92, b93⟩ := invM_12 hI
  obtain ⟨f94, c95, b96⟩ := invM_9 hI
  refine lv_aload_n hx hb dX12_copyShore_0 rfl (lv_at hl 0 rfl) ?_
  obtain ⟨v97, v98, v100, v102, v104, v105, w106, v107, v109, v110, v111, v112, v114, v116, v118, v120, v122, v123, v124, c125, b99, b101, b103, b108, b113, b115, b117, b119, b121⟩ := invM_0 hI
  have c125 : S 0 = .inr (12, [.int v97, .ref (ad 1), .ref (ad 2), .ref (ad 3), .ref (ad 4), .ref (ad 5), .int v98, .int v100, .int v102, .int v104, .int v105, .long w106, .int v107, .int v109, .int v110, .int v111, .ref (ad 6), .ref (ad 7), .ref (ad 8), .ref (ad 9), .ref (ad 10), .ref (ad 11), .ref (ad 12), .ref (ad 13), .ref (ad 14), .ref (ad 15), .int v112, .int v114, .ref (ad 16), .int v116, .int v118, .int v120, .int v122, .int v123, .ref (ad 17), .ref (ad 18), .int v124, .ref (ad 19)]) := c125
  refine xget E hQ 0 (by decide) c125 rfl 16 (by decide) q1484 rfl dX12_copyShore_1 ?_
  refine lv_iconst (v := 1) hx hb dX12_copyShore_4 (by decide) ?_
  refine lv_iload_n hx hb dX12_copyShore_5 rfl (lv_at hl 1 rfl) ?_
  refine lv_iload_n hx hb dX12_copyShore_6 rfl (lv_at hl 2 rfl) ?_
  refine xcSv E hs hQ hml hl.1 (uCopyRow l g ad 20 hD S 6 (by decide) 5 (by decide) f76 1 3 0 (by decide) (by decide) (by decide) c77) mX12_copyRow q1743 rfl ⟨(Nat.le_of_ble_eq_true rfl), (Nat.le_of_ble_eq_true rfl)⟩ ⟨(Nat.le_of_ble_eq_true rfl), (Nat.le_of_ble_eq_true rfl)⟩ (Nat.le_of_ble_eq_true rfl) rfl dX12_copyShore_7 (fun S126 H locs eS126 hQ => ?_)
  have hI := invM_up_6 hI eS126 ⟨_, rfl, cp_b b78⟩
  have b128 : ∀ j, Bd ((cpF f76 1 3 0 1) j) (0) (40000) := cp_b b78
  have c127 : S126 6 = .inl (g.2 0, 5, .inl (cpF f76 1 3 0 1)) := up_at eS126 rfl
  refine lv_aload_n hx hb dX12_copyShore_10 rfl (lv_at hl 0 rfl) ?_
  have c129 : S126 0 = .inr (12, [.int v97, .ref (ad 1), .ref (ad 2), .ref (ad 3), .ref (ad 4), .ref (ad 5), .int v98, .int v100, .int v102, .int v104, .int v105, .long w106, .int v107, .int v109, .int v110, .int v111, .ref (ad 6), .ref (ad 7), .ref (ad 8), .ref (ad 9), .ref (ad 10), .ref (ad 11), .ref (ad 12), .ref (ad 13), .ref (ad 14), .ref (ad 15), .int v112, .int v114, .ref (ad 16), .int v116, .int v118, .int v120, .int v122, .int v123, .ref (ad 17), .ref (ad 18), .int v124, .ref (ad 19)]) := (up_ne eS126 (by decide) c125)
  refine xget E hQ 0 (by decide) c129 rfl 17 (by decide) q1485 rfl dX12_copyShore_11 ?_
  refine lv_bipush (v := 10) hx hb dX12_copyShore_14 (by decide) ?_
  refine lv_iload_n hx hb dX12_copyShore_16 rfl (lv_at hl 1 rfl) ?_
  refine lv_iload_n hx hb dX12_copyShore_17 rfl (lv_at hl 2 rfl) ?_
  have c130 : S126 7 = .inl (g.2 0, 50, .inl f1) := (up_ne eS126 (by decide) c2)
  refine xcSv E hs hQ hml hl.1 (uCopyRow l g ad 20 hD S126 7 (by decide) 50 (by decide) f1 10 3 0 (by decide) (by decide) (by decide) c130) mX12_copyRow q1743 rfl ⟨(Nat.le_of_ble_eq_true rfl), (Nat.le_of_ble_eq_true rfl)⟩ ⟨(Nat.le_of_ble_eq_true rfl), (Nat.le_of_ble_eq_true rfl)⟩ (Nat.le_of_ble_eq_true rfl) rfl dX12_copyShore_18 (fun S131 H locs eS131 hQ => ?_)
  have hI := invM_up_7 hI eS131 ⟨_, rfl, ⟨cp_m (q := 1) b3.1 (by decide), cp_m (q := 1) b3.2.1 (by decide), cp_m (q := 1) b3.2.2.1 (by decide), cp_m (q := 1) b3.2.2.2.1 (by decide), cp_m (q := 1) b3.2.2.2.2.1 (by decide), cp_m (q := 1) b3.2.2.2.2.2.1 (by decide), cp_m (q := 1) b3.2.2.2.2.2.2.1 (by decide), cp_m (q := 1) b3.2.2.2.2.2.2.2 (by decide)⟩⟩
  have b133 : (∀ j, j % 10 = 0 → Bd ((cpF f1 10 3 0 10) j) (0) (12)) ∧ (∀ j, j % 10 = 1 → Bd ((cpF f1 10 3 0 10) j) (0) (12)) ∧ (∀ j, j % 10 = 2 → Bd ((cpF f1 10 3 0 10) j) (0) (6)) ∧ (∀ j, j % 10 = 3 → Bd ((cpF f1 10 3 0 10) j) (0) (12)) ∧ (∀ j, j % 10 = 6 → Bd ((cpF f1 10 3 0 10) j) (0) (8)) ∧ (∀ j, j % 10 = 7 → Bd ((cpF f1 10 3 0 10) j) (0) (6)) ∧ (∀ j, j % 10 = 8 → Bd ((cpF f1 10 3 0 10) j) (0) (3)) ∧ (∀ j, j % 10 = 9 → Bd ((cpF f1 10 3 0 10) j) (0) (40)) := ⟨cp_m (q := 1) b3.1 (by decide), cp_m (q := 1) b3.2.1 (by decide), cp_m (q := 1) b3.2.2.1 (by decide), cp_m (q := 1) b3.2.2.2.1 (by decide), cp_m (q := 1) b3.2.2.2.2.1 (by decide), cp_m (q := 1) b3.2.2.2.2.2.1 (by decide), cp_m (q := 1) b3.2.2.2.2.2.2.1 (by decide), cp_m (q := 1) b3.2.2.2.2.2.2.2 (by decide)⟩
  have c132 : S131 7 = .inl (g.2 0, 50, .inl (cpF f1 10 3 0 10)) := up_at eS131 rfl
  refine lv_aload_n hx hb dX12_copyShore_21 rfl (lv_at hl 0 rfl) ?_
  have c134 : S131 0 = .inr (12, [.int v97, .ref (ad 1), .ref (ad 2), .ref (ad 3), .ref (ad 4), .ref (ad 5), .int v98, .int v100, .int v102, .int v104, .int v105, .long w106, .int v107, .int v109, .int v110, .int v111, .ref (ad 6), .ref (ad 7), .ref (ad 8), .ref (ad 9), .ref (ad 10), .ref (ad 11), .ref (ad 12), .ref (ad 13), .ref (ad 14), .ref (ad 15), .int v112, .int v114, .ref (ad 16), .int v116, .int v118, .int v120, .int v122, .int v123, .ref (ad 17), .ref (ad 18), .int v124, .ref (ad 19)]) := (up_ne eS131 (by decide) c129)
  refine xget E hQ 0 (by decide) c134 rfl 18 (by decide) q1486 rfl dX12_copyShore_22 ?_
  refine lv_bipush (v := 24) hx hb dX12_copyShore_25 (by decide) ?_
  refine lv_iload_n hx hb dX12_copyShore_27 rfl (lv_at hl 1 rfl) ?_
  refine lv_iload_n hx hb dX12_copyShore_28 rfl (lv_at hl 2 rfl) ?_
  obtain ⟨f135, c136⟩ := invM_8 hI
  refine xcSv E hs hQ hml hl.1 (uCopyRow l g ad 20 hD S131 8 (by decide) 120 (by decide) f135 24 3 0 (by decide) (by decide) (by decide) c136) mX12_copyRow q1743 rfl ⟨(Nat.le_of_ble_eq_true rfl), (Nat.le_of_ble_eq_true rfl)⟩ ⟨(Nat.le_of_ble_eq_true rfl), (Nat.le_of_ble_eq_true rfl)⟩ (Nat.le_of_ble_eq_true rfl) rfl dX12_copyShore_29 (fun S138 H locs eS138 hQ => ?_)
  have hI := invM_up_8 hI eS138 ⟨_, rfl⟩
  have c139 : S138 8 = .inl (g.2 0, 120, .inl (cpF f135 24 3 0 24)) := up_at eS138 rfl
  refine lv_aload_n hx hb dX12_copyShore_32 rfl (lv_at hl 0 rfl) ?_
  have c140 : S138 0 = .inr (12, [.int v97, .ref (ad 1), .ref (ad 2), .ref (ad 3), .ref (ad 4), .ref (ad 5), .int v98, .int v100, .int v102, .int v104, .int v105, .long w106, .int v107, .int v109, .int v110, .int v111, .ref (ad 6), .ref (ad 7), .ref (ad 8), .ref (ad 9), .ref (ad 10), .ref (ad 11), .ref (ad 12), .ref (ad 13), .ref (ad 14), .ref (ad 15), .int v112, .int v114, .ref (ad 16), .int v116, .int v118, .int v120, .int v122, .int v123, .ref (ad 17), .ref (ad 18), .int v124, .ref (ad 19)]) := (up_ne eS138 (by decide) c134)
  refine xget E hQ 0 (by decide) c140 rfl 19 (by decide) q1487 rfl dX12_copyShore_33 ?_
  refine lv_bipush (v := 24) hx hb dX12_copyShore_36 (by decide) ?_
  refine lv_iload_n hx hb dX12_copyShore_38 rfl (lv_at hl 1 rfl) ?_
  refine lv_iload_n hx hb dX12_copyShore_39 rfl (lv_at hl 2 rfl) ?_
  have c141 : S138 9 = .inl (g.2 0, 120, .inl f94) := (up_ne eS138 (by decide) (up_ne eS131 (by decide) (up_ne eS126 (by decide) c95)))
  refine xcSv E hs hQ hml hl.1 (uCopyRow l g ad 20 hD S138 9 (by decide) 120 (by decide) f94 24 3 0 (by decide) (by decide) (by decide) c141) mX12_copyRow q1743 rfl ⟨(Nat.le_of_ble_eq_true rfl), (Nat.le_of_ble_eq_true rfl)⟩ ⟨(Nat.le_of_ble_eq_true rfl), (Nat.le_of_ble_eq_true rfl)⟩ (Nat.le_of_ble_eq_true rfl) rfl dX12_copyShore_40 (fun S142 H locs eS142 hQ => ?_)
  have hI := invM_up_9 hI eS142 ⟨_, rfl, ⟨cp_m (q := 8) b96.1 (by decide), cp_m (q := 8) b96.2 (by decide)⟩⟩
  have b144 : (∀ j, j % 3 = 1 → Bd ((cpF f94 24 3 0 24) j) (0) (11)) ∧ (∀ j, j % 3 = 2 → Bd ((cpF f94 24 3 0 24) j) (0) (99)) := ⟨cp_m (q := 8) b96.1 (by decide), cp_m (q := 8) b96.2 (by decide)⟩
  have c143 : S142 9 = .inl (g.2 0, 120, .inl (cpF f94 24 3 0 24)) := up_at eS142 rfl
  refine lv_aload_n hx hb dX12_copyShore_43 rfl (lv_at hl 0 rfl) ?_
  have c145 : S142 0 = .inr (12, [.int v97, .ref (ad 1), .ref (ad 2), .ref (ad 3), .ref (ad 4), .ref (ad 5), .int v98, .int v100, .int v102, .int v104, .int v105, .long w106, .int v107, .int v109, .int v110, .int v111, .ref (ad 6), .ref (ad 7), .ref (ad 8), .ref (ad 9), .ref (ad 10), .ref (ad 11), .ref (ad 12), .ref (ad 13), .ref (ad 14), .ref (ad 15), .int v112, .int v114, .ref (ad 16), .int v116, .int v118, .int v120, .int v122, .int v123, .ref (ad 17), .ref (ad 18), .int v124, .ref (ad 19)]) := (up_ne eS142 (by decide) c140)
  refine xget E hQ 0 (by decide) c145 rfl 20 (by decide) q1488 rfl dX12_copyShore_44 ?_
  refine lv_bipush (v := 24) hx hb dX12_copyShore_47 (by decide) ?_
  refine lv_iload_n hx hb dX12_copyShore_49 rfl (lv_at hl 1 rfl) ?_
  refine lv_iload_n hx hb dX12_copyShore_50 rfl (lv_at hl 2 rfl) ?_
  obtain ⟨f146, c147⟩ := invM_10 hI
  refine xcSv E hs hQ hml hl.1 (uCopyRow l g ad 20 hD S142 10 (by decide) 120 (by decide) f146 24 3 0 (by decide) (by decide) (by decide) c147) mX12_copyRow q1743 rfl ⟨(Nat.le_of_ble_eq_true rfl), (Nat.le_of_ble_eq_true rfl)⟩ ⟨(Nat.le_of_ble_eq_true rfl), (Nat.le_of_ble_eq_true rfl)⟩ (Nat.le_of_ble_eq_true rfl) rfl dX12_copyShore_51 (fun S149 H locs eS149 hQ => ?_)
  have hI := invM_up_10 hI eS149 ⟨_, rfl⟩
  have c150 : S149 10 = .inl (g.2 0, 120, .inl (cpF f146 24 3 0 24)) := up_at eS149 rfl
  refine lv_aload_n hx hb dX12_copyShore_54 rfl (lv_at hl 0 rfl) ?_
  have c151 : S149 0 = .inr (12, [.int v97, .ref (ad 1), .ref (ad 2), .ref (ad 3), .ref (ad 4), .ref (ad 5), .int v98, .int v100, .int v102, .int v104, .int v105, .long w106, .int v107, .int v109, .int v110, .int v111, .ref (ad 6), .ref (ad 7), .ref (ad 8), .ref (ad 9), .ref (ad 10), .ref (ad 11), .ref (ad 12), .ref (ad 13), .ref (ad 14), .ref (ad 15), .int v112, .int v114, .ref (ad 16), .int v116, .int v118, .int v120, .int v122, .int v123, .ref (ad 17), .ref (ad 18), .int v124, .ref (ad 19)]) := (up_ne eS149 (by decide) c145)
  refine xget E hQ 0 (by decide) c151 rfl 21 (by decide) q1489 rfl dX12_copyShore_55 ?_
  refine lv_iconst (v := 3) hx hb dX12_copyShore_58 (by decide) ?_
  refine lv_iload_n hx hb dX12_copyShore_59 rfl (lv_at hl 1 rfl) ?_
  refine lv_iload_n hx hb dX12_copyShore_60 rfl (lv_at hl 2 rfl) ?_
  obtain ⟨f152, c153, b154⟩ := invM_11 hI
  refine xcSv E hs hQ hml hl.1 (uCopyRow l g ad 20 hD S149 11 (by decide) 15 (by decide) f152 3 3 0 (by decide) (by decide) (by decide) c153) mX12_copyRow q1743 rfl ⟨(Nat.le_of_ble_eq_true rfl), (Nat.le_of_ble_eq_true rfl)⟩ ⟨(Nat.le_of_ble_eq_true rfl), (Nat.le_of_ble_eq_true rfl)⟩ (Nat.le_of_ble_eq_true rfl) rfl dX12_copyShore_61 (fun S155 H locs eS155 hQ => ?_)
  have hI := invM_up_11 hI eS155 ⟨_, rfl, cp_b b154⟩
  have b157 : ∀ j, Bd ((cpF f152 3 3 0 3) j) (0) (11) := cp_b b154
  have c156 : S155 11 = .inl (g.2 0, 15, .inl (cpF f152 3 3 0 3)) := up_at eS155 rfl
  refine lv_aload_n hx hb dX12_copyShore_64 rfl (lv_at hl 0 rfl) ?_
  have c158 : S155 0 = .inr (12, [.int v97, .ref (ad 1), .ref (ad 2), .ref (ad 3), .ref (ad 4), .ref (ad 5), .int v98, .int v100, .int v102, .int v104, .int v105, .long w106, .int v107, .int v109, .int v110, .int v111, .ref (ad 6), .ref (ad 7), .ref (ad 8), .ref (ad 9), .ref (ad 10), .ref (ad 11), .ref (ad 12), .ref (ad 13), .ref (ad 14), .ref (ad 15), .int v112, .int v114, .ref (ad 16), .int v116, .int v118, .int v120, .int v122, .int v123, .ref (ad 17), .ref (ad 18), .int v124, .ref (ad 19)]) := (up_ne eS155 (by decide) c151)
  refine xget E hQ 0 (by decide) c158 rfl 22 (by decide) q1490 rfl dX12_copyShore_65 ?_
  refine lv_sipush (v := 160) hx hb dX12_copyShore_68 (by decide) ?_
  refine lv_iload_n hx hb dX12_copyShore_71 rfl (lv_at hl 1 rfl) ?_
  refine lv_iload_n hx hb dX12_copyShore_72 rfl (lv_at hl 2 rfl) ?_
  have c159 : S155 12 = .inl (g.2 0, 800, .inl f91) := (up_ne eS155 (by decide) (up_ne eS149 (by decide) (up_ne eS142 (by decide) (up_ne eS138 (by decide) (up_ne eS131 (by decide) (up_ne eS126 (by decide) c92))))))
  refine xcSv E hs hQ hml hl.1 (uCopyRow l g ad 20 hD S155 12 (by decide) 800 (by decide) f91 160 3 0 (by decide) (by decide) (by decide) c159) mX12_copyRow q1743 rfl ⟨(Nat.le_of_ble_eq_true rfl), (Nat.le_of_ble_eq_true rfl)⟩ ⟨(Nat.le_of_ble_eq_true rfl), (Nat.le_of_ble_eq_true rfl)⟩ (Nat.le_of_ble_eq_true rfl) rfl dX12_copyShore_73 (fun S160 H locs eS160 hQ => ?_)
  have hI := invM_up_12 hI eS160 ⟨_, rfl, ⟨cp_m (q := 40) b93.1 (by decide), cp_m (q := 40) b93.2 (by decide)⟩⟩
  have b162 : (∀ j, j % 4 = 1 → Bd ((cpF f91 160 3 0 160) j) (0) (7)) ∧ (∀ j, j % 4 = 2 → Bd ((cpF f91 160 3 0 160) j) (0) (400)) := ⟨cp_m (q := 40) b93.1 (by decide), cp_m (q := 40) b93.2 (by decide)⟩
  have c161 : S160 12 = .inl (g.2 0, 800, .inl (cpF f91 160 3 0 160)) := up_at eS160 rfl
  have q163 : elm (S 7) 30 = v4.toInt := (elm_of c2 30).trans (congrArg Int32.toInt (ee5))
  have c164 : S160 7 = .inl (g.2 0, 50, .inl (cpF f1 10 3 0 10)) := (up_ne eS160 (by decide) (up_ne eS155 (by decide) (up_ne eS149 (by decide) (up_ne eS142 (by decide) (up_ne eS138 (by decide) c132)))))
  have q165 : elm (S160 7) 0 = v4.toInt := (elm_of c164 0).trans (congrArg Int32.toInt (((show cpF f1 10 3 0 10 0 = f1 30 from rfl).trans (ee5))))
  have q166 : elm (S 7) 31 = v10.toInt := (elm_of c2 31).trans (congrArg Int32.toInt (ee11))
  have q167 : elm (S160 7) 1 = v10.toInt := (elm_of c164 1).trans (congrArg Int32.toInt (((show cpF f1 10 3 0 10 1 = f1 31 from rfl).trans (ee11))))
  have q168 : elm (S 7) 33 = v16.toInt := (elm_of c2 33).trans (congrArg Int32.toInt (ee17))
  have q169 : elm (S160 7) 3 = v16.toInt := (elm_of c164 3).trans (congrArg Int32.toInt (((show cpF f1 10 3 0 10 3 = f1 33 from rfl).trans (ee17))))
  have q170 : elm (S 7) 36 = v22.toInt := (elm_of c2 36).trans (congrArg Int32.toInt (ee23))
  have q171 : elm (S160 7) 6 = v22.toInt := (elm_of c164 6).trans (congrArg Int32.toInt (((show cpF f1 10 3 0 10 6 = f1 36 from rfl).trans (ee23))))
  have q172 : elm (S 7) 38 = v28.toInt := (elm_of c2 38).trans (congrArg Int32.toInt (ee29))
  have q173 : elm (S160 7) 8 = v28.toInt := (elm_of c164 8).trans (congrArg Int32.toInt (((show cpF f1 10 3 0 10 8 = f1 38 from rfl).trans (ee29))))
  have q174 : elm (S 7) 39 = v34.toInt := (elm_of c2 39).trans (congrArg Int32.toInt (ee35))
  have q175 : elm (S160 7) 9 = v34.toInt := (elm_of c164 9).trans (congrArg Int32.toInt (((show cpF f1 10 3 0 10 9 = f1 39 from rfl).trans (ee35))))
  have q176 : elm (S 7) 10 = v40.toInt := (elm_of c2 10).trans (congrArg Int32.toInt (ee41))
  have q177 : elm (S160 7) 10 = v40.toInt := (elm_of c164 10).trans (congrArg Int32.toInt (((show cpF f1 10 3 0 10 10 = f1 10 from rfl).trans (ee41))))
  have q178 : elm (S 7) 11 = v43.toInt := (elm_of c2 11).trans (congrArg Int32.toInt (ee44))
  have q179 : elm (S160 7) 11 = v43.toInt := (elm_of c164 11).trans (congrArg Int32.toInt (((show cpF f1 10 3 0 10 11 = f1 11 from rfl).trans (ee44))))
  have q180 : elm (S 7) 13 = v46.toInt := (elm_of c2 13).trans (congrArg Int32.toInt (ee47))
  have q181 : elm (S160 7) 13 = v46.toInt := (elm_of c164 13).trans (congrArg Int32.toInt (((show cpF f1 10 3 0 10 13 = f1 13 from rfl).trans (ee47))))
  have q182 : elm (S 7) 16 = v49.toInt := (elm_of c2 16).trans (congrArg Int32.toInt (ee50))
  have q183 : elm (S160 7) 16 = v49.toInt := (elm_of c164 16).trans (congrArg Int32.toInt (((show cpF f1 10 3 0 10 16 = f1 16 from rfl).trans (ee50))))
  have q184 : elm (S 7) 18 = v52.toInt := (elm_of c2 18).trans (congrArg Int32.toInt (ee53))
  have q185 : elm (S160 7) 18 = v52.toInt := (elm_of c164 18).trans (congrArg Int32.toInt (((show cpF f1 10 3 0 10 18 = f1 18 from rfl).trans (ee53))))
  have q186 : elm (S 7) 19 = v55.toInt := (elm_of c2 19).trans (congrArg Int32.toInt (ee56))
  have q187 : elm (S160 7) 19 = v55.toInt := (elm_of c164 19).trans (congrArg Int32.toInt (((show cpF f1 10 3 0 10 19 = f1 19 from rfl).trans (ee56))))
  have q188 : elm (S 7) 20 = v58.toInt := (elm_of c2 20).trans (congrArg Int32.toInt (ee59))
  have q189 : elm (S160 7) 20 = v58.toInt := (elm_of c164 20).trans (congrArg Int32.toInt (((show cpF f1 10 3 0 10 20 = f1 20 from rfl).trans (ee59))))
  have q190 : elm (S 7) 21 = v61.toInt := (elm_of c2 21).trans (congrArg Int32.toInt (ee62))
  have q191 : elm (S160 7) 21 = v61.toInt := (elm_of c164 21).trans (congrArg Int32.toInt (((show cpF f1 10 3 0 10 21 = f1 21 from rfl).trans (ee62))))
  have q192 : elm (S 7) 23 = v64.toInt := (elm_of c2 23).trans (congrArg Int32.toInt (ee65))
  have q193 : elm (S160 7) 23 = v64.toInt := (elm_of c164 23).trans (congrArg Int32.toInt (((show cpF f1 10 3 0 10 23 = f1 23 from rfl).trans (ee65))))
  have q194 : elm (S 7) 26 = v67.toInt := (elm_of c2 26).trans (congrArg Int32.toInt (ee68))
  have q195 : elm (S160 7) 26 = v67.toInt := (elm_of c164 26).trans (congrArg Int32.toInt (((show cpF f1 10 3 0 10 26 = f1 26 from rfl).trans (ee68))))
  have q196 : elm (S 7) 28 = v70.toInt := (elm_of c2 28).trans (congrArg Int32.toInt (ee71))
  have q197 : elm (S160 7) 28 = v70.toInt := (elm_of c164 28).trans (congrArg Int32.toInt (((show cpF f1 10 3 0 10 28 = f1 28 from rfl).trans (ee71))))
  have q198 : elm (S 7) 29 = v73.toInt := (elm_of c2 29).trans (congrArg Int32.toInt (ee74))
  have q199 : elm (S160 7) 29 = v73.toInt := (elm_of c164 29).trans (congrArg Int32.toInt (((show cpF f1 10 3 0 10 29 = f1 29 from rfl).trans (ee74))))
  have q200 : elm (S160 7) 30 = v4.toInt := (elm_of c164 30).trans (congrArg Int32.toInt (((show cpF f1 10 3 0 10 30 = f1 30 from rfl).trans (ee5))))
  have q201 : elm (S160 7) 31 = v10.toInt := (elm_of c164 31).trans (congrArg Int32.toInt (((show cpF f1 10 3 0 10 31 = f1 31 from rfl).trans (ee11))))
  have q202 : elm (S160 7) 33 = v16.toInt := (elm_of c164 33).trans (congrArg Int32.toInt (((show cpF f1 10 3 0 10 33 = f1 33 from rfl).trans (ee17))))
  have q203 : elm (S160 7) 36 = v22.toInt := (elm_of c164 36).trans (congrArg Int32.toInt (((show cpF f1 10 3 0 10 36 = f1 36 from rfl).trans (ee23))))
  have q204 : elm (S160 7) 38 = v28.toInt := (elm_of c164 38).trans (congrArg Int32.toInt (((show cpF f1 10 3 0 10 38 = f1 38 from rfl).trans (ee29))))
  have q205 : elm (S160 7) 39 = v34.toInt := (elm_of c164 39).trans (congrArg Int32.toInt (((show cpF f1 10 3 0 10 39 = f1 39 from rfl).trans (ee35))))
  have q206 : elm (S 6) 3 = v79.toInt := (elm_of c77 3).trans (congrArg Int32.toInt (ee80))
  have c207 : S160 6 = .inl (g.2 0, 5, .inl (cpF f76 1 3 0 1)) := (up_ne eS160 (by decide) (up_ne eS155 (by decide) (up_ne eS149 (by decide) (up_ne eS142 (by decide) (up_ne eS138 (by decide) (up_ne eS131 (by decide) c127))))))
  have q208 : elm (S160 6) 0 = v79.toInt := (elm_of c207 0).trans (congrArg Int32.toInt (((show cpF f76 1 3 0 1 0 = f76 3 from rfl).trans (ee80))))
  have q209 : elm (S 6) 1 = v85.toInt := (elm_of c77 1).trans (congrArg Int32.toInt (ee86))
  have q210 : elm (S160 6) 1 = v85.toInt := (elm_of c207 1).trans (congrArg Int32.toInt (((show cpF f76 1 3 0 1 1 = f76 1 from rfl).trans (ee86))))
  have q211 : elm (S 6) 2 = v88.toInt := (elm_of c77 2).trans (congrArg Int32.toInt (ee89))
  have q212 : elm (S160 6) 2 = v88.toInt := (elm_of c207 2).trans (congrArg Int32.toInt (((show cpF f76 1 3 0 1 2 = f76 2 from rfl).trans (ee89))))
  have q213 : elm (S160 6) 3 = v79.toInt := (elm_of c207 3).trans (congrArg Int32.toInt (((show cpF f76 1 3 0 1 3 = f76 3 from rfl).trans (ee80))))
  have c214 : S160 9 = .inl (g.2 0, 120, .inl (cpF f94 24 3 0 24)) := (up_ne eS160 (by decide) (up_ne eS155 (by decide) (up_ne eS149 (by decide) c143)))
  exact xrv E hr hlk hQ (⟨hI, (up_o (up_o (up_o (up_o (up_o (up_o (up_o o_refl eS126 (by decide)) eS131 (by decide)) eS138 (by decide)) eS142 (by decide)) eS149 (by decide)) eS155 (by decide)) eS160 (by decide)), ⟨by omega, by omega⟩, ⟨by omega, by omega⟩, ⟨by omega, by omega⟩, ⟨by omega, by omega⟩, ⟨by omega, by omega⟩, ⟨by omega, by omega⟩, ⟨by omega, by omega⟩, ⟨by omega, by omega⟩, ⟨by omega, by omega⟩, ⟨by omega, by omega⟩, ⟨by omega, by omega⟩, ⟨by omega, by omega⟩, ⟨by omega, by omega⟩, ⟨by omega, by omega⟩, ⟨by omega, by omega⟩, ⟨by omega, by omega⟩, ⟨by omega, by omega⟩, ⟨by omega, by omega⟩, ⟨by omega, by omega⟩, ⟨by omega, by omega⟩, ⟨by omega, by omega⟩, ⟨by omega, by omega⟩, ⟨by omega, by omega⟩, ⟨by omega, by omega⟩, ⟨by omega, by omega⟩, ⟨by omega, by omega⟩, ⟨by omega, by omega⟩, ⟨by omega, by omega⟩, (at_cpb c2 c92 c164 c161 b3.2.2.2.2.2.2.2 hAT3), (at_cpo c2 c92 c164 c161 b3.2.2.2.2.2.2.2 (by decide) hAT1), (at_cpo c2 c92 c164 c161 b3.2.2.2.2.2.2.2 (by decide) hAT2), (at_cpo c2 c92 c164 c161 b3.2.2.2.2.2.2.2 (by decide) hAT3), (ht_cpb c2 c95 c164 c214 b3.2.2.2.2.1 hHT3), (ht_cpo c2 c95 c164 c214 b3.2.2.2.2.1 (by decide) hHT1), (ht_cpo c2 c95 c164 c214 b3.2.2.2.2.1 (by decide) hHT2), (ht_cpo c2 c95 c164 c214 b3.2.2.2.2.1 (by decide) hHT3)⟩) dX12_copyShore_76
set_option maxHeartbeats 4000000 in
set_option maxRecDepth 100000 in
theorem gX12_acts_0 (l : Launch) (g : GG) (ad : Nat → Nat) (hD : Dj ad 20) (S : SS) (hI : InvM g ad S) (a1 : Int32) (a2 : Int32) (a3 : Int32) (a4 : Int32) (ba1 : Bd a1 (0) (1)) (ba2 : Bd a2 (0) (7)) (ba3 : Bd a3 (0) (400)) (ba4 : Bd a4 (0) (1)) (hq1 : 0 ≤ (-1) * elm (S 7) 9 + 39) (hAT0 : ATp (S 7) (S 12) 0) (hAT1 : ATp (S 7) (S 12) 1) (hAT2 : ATp (S 7) (S 12) 2) (hAT3 : ATp (S 7) (S 12) 3) (hw : a1.toInt = 0 → a2.toInt ≤ 2 ∧ a3.toInt ≤ 11) : Met l yX12_acts (wG (.code yX12_acts cX12_acts 6 none)) (Rm 0) (XPre g ad 20 S [.ref (ad 0), .int a1, .int a2, .int a3, .int a4]) (va_Qv (fun S' => InvM g ad S' ∧ (∀ j, j ∉ ([7, 12] : List Nat) → S' j = S j) ∧ (0 ≤ elm (S 7) 9 + (-1) * elm (S' 7) 9 + 1 ∧ 0 ≤ elm (S' 7) 9 + (-1) * elm (S 7) 9 + (-1)) ∧ (0 ≤ elm (S 7) 0 + (-1) * elm (S' 7) 0 ∧ 0 ≤ elm (S' 7) 0 + (-1) * elm (S 7) 0) ∧ (0 ≤ elm (S 7) 1 + (-1) * elm (S' 7) 1 ∧ 0 ≤ elm (S' 7) 1 + (-1) * elm (S 7) 1) ∧ (0 ≤ elm (S 7) 3 + (-1) * elm (S' 7) 3 ∧ 0 ≤ elm (S' 7) 3 + (-1) * elm (S 7) 3) ∧ (0 ≤ elm (S 7) 6 + (-1) * elm (S' 7) 6 ∧ 0 ≤ elm (S' 7) 6 + (-1) * elm (S 7) 6) ∧ (0 ≤ elm (S 7) 8 + (-1) * elm (S' 7) 8 ∧ 0 ≤ elm (S' 7) 8 + (-1) * elm (S 7) 8) ∧ (0 ≤ elm (S 7) 10 + (-1) * elm (S' 7) 10 ∧ 0 ≤ elm (S' 7) 10 + (-1) * elm (S 7) 10) ∧ (0 ≤ elm (S 7) 11 + (-1) * elm (S' 7) 11 ∧ 0 ≤ elm (S' 7) 11 + (-1) * elm (S 7) 11) ∧ (0 ≤ elm (S 7) 13 + (-1) * elm (S' 7) 13 ∧ 0 ≤ elm (S' 7) 13 + (-1) * elm (S 7) 13) ∧ (0 ≤ elm (S 7) 16 + (-1) * elm (S' 7) 16 ∧ 0 ≤ elm (S' 7) 16 + (-1) * elm (S 7) 16) ∧ (0 ≤ elm (S 7) 18 + (-1) * elm (S' 7) 18 ∧ 0 ≤ elm (S' 7) 18 + (-1) * elm (S 7) 18) ∧ (0 ≤ elm (S 7) 19 + (-1) * elm (S' 7) 19 ∧ 0 ≤ elm (S' 7) 19 + (-1) * elm (S 7) 19) ∧ (0 ≤ elm (S 7) 20 + (-1) * elm (S' 7) 20 ∧ 0 ≤ elm (S' 7) 20 + (-1) * elm (S 7) 20) ∧ (0 ≤ elm (S 7) 21 + (-1) * elm (S' 7) 21 ∧ 0 ≤ elm (S' 7) 21 + (-1) * elm (S 7) 21) ∧ (0 ≤ elm (S 7) 23 + (-1) * elm (S' 7) 23 ∧ 0 ≤ elm (S' 7) 23 + (-1) * elm (S 7) 23) ∧ (0 ≤ elm (S 7) 26 + (-1) * elm (S' 7) 26 ∧ 0 ≤ elm (S' 7) 26 + (-1) * elm (S 7) 26) ∧ (0 ≤ elm (S 7) 28 + (-1) * elm (S' 7) 28 ∧ 0 ≤ elm (S' 7) 28 + (-1) * elm (S 7) 28) ∧ (0 ≤ elm (S 7) 29 + (-1) * elm (S' 7) 29 ∧ 0 ≤ elm (S' 7) 29 + (-1) * elm (S 7) 29) ∧ (0 ≤ elm (S 7) 30 + (-1) * elm (S' 7) 30 ∧ 0 ≤ elm (S' 7) 30 + (-1) * elm (S 7) 30) ∧ (0 ≤ elm (S 7) 31 + (-1) * elm (S' 7) 31 ∧ 0 ≤ elm (S' 7) 31 + (-1) * elm (S 7) 31) ∧ (0 ≤ elm (S 7) 33 + (-1) * elm (S' 7) 33 ∧ 0 ≤ elm (S' 7) 33 + (-1) * elm (S 7) 33) ∧ (0 ≤ elm (S 7) 36 + (-1) * elm (S' 7) 36 ∧ 0 ≤ elm (S' 7) 36 + (-1) * elm (S 7) 36) ∧ (0 ≤ elm (S 7) 38 + (-1) * elm (S' 7) 38 ∧ 0 ≤ elm (S' 7) 38 + (-1) * elm (S 7) 38) ∧ (0 ≤ elm (S 7) 39 + (-1) * elm (S' 7) 39 ∧ 0 ≤ elm (S' 7) 39 + (-1) * elm (S 7) 39) ∧ (ATp (S' 7) (S' 12) 0) ∧ (ATp (S' 7) (S' 12) 1) ∧ (ATp (S' 7) (S' 12) 2) ∧ (ATp (S' 7) (S' 12) 3)) (QB g ad 20) (FA ad 20)) 0 0 (FA ad 20) := by
  refine xmet cX12_acts "EbbWreckModel" (by decide) rfl (Nat.le_of_ble_eq_true rfl) (fun p e s m below meth c E hr hlk hml hQ ls hl => ?_)
  have hx := E.1
  have hb := E.2.1
  have hs : Sp ad 20 (FA ad 20) := Sp.fa hD
  have hl : lv_has ls 6 [(0, .ref (ad 0)), (1, .int a1), (2, .int a2), (3, .int a3), (4, .int a4)] := hl
  obtain ⟨f1, c2, b3⟩ := invM_7 hI
  obtain ⟨v4, ee5⟩ : ∃ z : Int32, f1 9 = z := ⟨_, rfl⟩
  have b6 : Bd v4 (0) (40) := (by rw [← ee5]; exact b3.2.2.2.2.2.2.2 9 (by decide))
  obtain ⟨v7, ee8⟩ : ∃ z : Int32, f1 0 = z := ⟨_, rfl⟩
  have b9 : Bd v7 (0) (12) := (by rw [← ee8]; exact b3.1 0 (by decide))
  obtain ⟨v10, ee11⟩ : ∃ z : Int32, f1 1 = z := ⟨_, rfl⟩
  have b12 : Bd v10 (0) (12) := (by rw [← ee11]; exact b3.2.1 1 (by decide))
  obtain ⟨v13, ee14⟩ : ∃ z : Int32, f1 3 = z := ⟨_, rfl⟩
  have b15 : Bd v13 (0) (12) := (by rw [← ee14]; exact b3.2.2.2.1 3 (by decide))
  obtain ⟨v16, ee17⟩ : ∃ z : Int32, f1 6 = z := ⟨_, rfl⟩
  have b18 : Bd v16 (0) (8) := (by rw [← ee17]; exact b3.2.2.2.2.1 6 (by decide))
  obtain ⟨v19, ee20⟩ : ∃ z : Int32, f1 8 = z := ⟨_, rfl⟩
  have b21 : Bd v19 (0) (3) := (by rw [← ee20]; exact b3.2.2.2.2.2.2.1 8 (by decide))
  obtain ⟨v22, ee23⟩ : ∃ z : Int32, f1 10 = z := ⟨_, rfl⟩
  have b24 : Bd v22 (0) (12) := (by rw [← ee23]; exact b3.1 10 (by decide))
  obtain ⟨v25, ee26⟩ : ∃ z : Int32, f1 11 = z := ⟨_, rfl⟩
  have b27 : Bd v25 (0) (12) := (by rw [← ee26]; exact b3.2.1 11 (by decide))
  obtain ⟨v28, ee29⟩ : ∃ z : Int32, f1 13 = z := ⟨_, rfl⟩
  have b30 : Bd v28 (0) (12) := (by rw [← ee29]; exact b3.2.2.2.1 13 (by decide))
  obtain ⟨v31, ee32⟩ : ∃ z : Int32, f1 16 = z := ⟨_, rfl⟩
  have b33 : Bd v31 (0) (8) := (by rw [← ee32]; exact b3.2.2.2.2.1 16 (by decide))
  obtain ⟨v34, ee35⟩ : ∃ z : Int32, f1 18 = z := ⟨_, rfl⟩
  have b36 : Bd v34 (0) (3) := (by rw [← ee35]; exact b3.2.2.2.2.2.2.1 18 (by decide))
  obtain ⟨v37, ee38⟩ : ∃ z : Int32, f1 19 = z := ⟨_, rfl⟩
  have b39 : Bd v37 (0) (40) := (by rw [← ee38]; exact b3.2.2.2.2.2.2.2 19 (by decide))
  obtain ⟨v40, ee41⟩ : ∃ z : Int32, f1 20 = z := ⟨_, rfl⟩
  have b42 : Bd v40 (0) (12) := (by rw [← ee41]; exact b3.1 20 (by decide))
  obtain ⟨v43, ee44⟩ : ∃ z : Int32, f1 21 = z := ⟨_, rfl⟩
  have b45 : Bd v43 (0) (12) := (by rw [← ee44]; exact b3.2.1 21 (by decide))
  obtain ⟨v46, ee47⟩ : ∃ z : Int32, f1 23 = z := ⟨_, rfl⟩
  have b48 : Bd v46 (0) (12) := (by rw [← ee47]; exact b3.2.2.2.1 23 (by decide))
  obtain ⟨v49, ee50⟩ : ∃ z : Int32, f1 26 = z := ⟨_, rfl⟩
  have b51 : Bd v49 (0) (8) := (by rw [← ee50]; exact b3.2.2.2.2.1 26 (by decide))
  obtain ⟨v52, ee53⟩ : ∃ z : Int32, f1 28 = z := ⟨_, rfl⟩
  have b54 : Bd v52 (0) (3) := (by rw [← ee53]; exact b3.2.2.2.2.2.2.1 28 (by decide))
  obtain ⟨v55, ee56⟩ : ∃ z : Int32, f1 29 = z := ⟨_, rfl⟩
  have b57 : Bd v55 (0) (40) := (by rw [← ee56]; exact b3.2.2.2.2.2.2.2 29 (by decide))
  obtain ⟨v58, ee59⟩ : ∃ z : Int32, f1 30 = z := ⟨_, rfl⟩
  have b60 : Bd v58 (0) (12) := (by rw [← ee59]; exact b3.1 30 (by decide))
  obtain ⟨v61, ee62⟩ : ∃ z : Int32, f1 31 = z := ⟨_, rfl⟩
  have b63 : Bd v61 (0) (12) := (by rw [← ee62]; exact b3.2.1 31 (by decide))
  obtain ⟨v64, ee65⟩ : ∃ z : Int32, f1 33 = z := ⟨_, rfl⟩
  have b66 : Bd v64 (0) (12) := (by rw [← ee65]; exact b3.2.2.2.1 33 (by decide))
  obtain ⟨v67, ee68⟩ : ∃ z : Int32, f1 36 = z := ⟨_, rfl⟩
  have b69 : Bd v67 (0) (8) := (by rw [← ee68]; exact b3.2.2.2.2.1 36 (by decide))
  obtain ⟨v70, ee71⟩ : ∃ z : Int32, f1 38 = z := ⟨_, rfl⟩
  have b72 : Bd v70 (0) (3) := (by rw [← ee71]; exact b3.2.2.2.2.2.2.1 38 (by decide))
  obtain ⟨v73, ee74⟩ : ∃ z : Int32, f1 39 = z := ⟨_, rfl⟩
  have b75 : Bd v73 (0) (40) := (by rw [← ee74]; exact b3.2.2.2.2.2.2.2 39 (by decide))
  have q76 : elm (S 7) 9 = v4.toInt := (elm_of c2 9).trans (congrArg Int32.toInt (ee5))
  have b77 : Bd v4 (0) (39) := ⟨(b6).1, by omega⟩
  obtain ⟨f78, c79, b80⟩ := invM_12 hI
  obtain ⟨f81, c82, b83⟩ := invM_9 hI
  obtain ⟨f84, c85, b86⟩ := invM_6 hI
  obtain ⟨v87, ee88⟩ : ∃ z : Int32, f84 0 = z := ⟨_, rfl⟩
  have b89 : Bd v87 (0) (40000) := (by rw [← ee88]; exact b86 0)
  obtain ⟨v90, ee91⟩ : ∃ z : Int32, f84 1 = z := ⟨_, rfl⟩
  have b92 : Bd v90 (0) (40000) := (by rw [← ee91]; exact b86 1)
  obtain ⟨v93, ee94⟩ : ∃ z : Int32, f84 2 = z := ⟨_, rfl⟩
  have b95 : Bd v93 (0) (40000) := (by rw [← ee94]; exact b86 2)
  obtain ⟨v96, ee97⟩ : ∃ z : Int32, f84 3 = z := ⟨_, rfl⟩
  have b98 : Bd v96 (0) (40000) := (by rw [← ee97]; exact b86 3)
  refine lv_iconst (v := 4) hx hb dX12_acts_0 (by decide) ?_
  refine lv_aload_n hx hb dX12_acts_1 rfl (lv_at hl 0 rfl) ?_
  obtain ⟨v99, v100, v102, v104, v106, v107, w108, v109, v111, v112, v113, v114, v116, v118, v120, v122, v124, v125, v126, c127, b101, b103, b105, b110, b115, b117, b119, b121, b123⟩ := invM_0 hI
  have c127 : S 0 = .inr (12, [.int v99, .ref (ad 1), .ref (ad 2), .ref (ad 3), .ref (ad 4), .ref (ad 5), .int v100, .int v102, .int v104, .int v106, .int v107, .long w108, .int v109, .int v111, .int v112, .int v113, .ref (ad 6), .ref (ad 7), .ref (ad 8), .ref (ad 9), .ref (ad 10), .ref (ad 11), .ref (ad 12), .ref (ad 13), .ref (ad 14), .ref (ad 15), .int v114, .int v116, .ref (ad 16), .int v118, .int v120, .int v122, .int v124, .int v125, .ref (ad 17), .ref (ad 18), .int v126, .ref (ad 19)]) := c127
  refine xget E hQ 0 (by decide) c127 rfl 17 (by decide) q1485 rfl dX12_acts_2 ?_
  refine lv_bipush (v := 9) hx hb dX12_acts_5 (by decide) ?_
  refine xiald E hQ 7 (by decide) c2 (vp_in_lit 9 50 (by decide)) dX12_acts_7 ?_
  refine sb_at (P := fun z => W _ _ _ _ _ _ _ _ _ _ _ _ _ _ _ (F0 _ _ _ (.int z :: _))) (show f1 (9 : Int32).toNatClampNeg = v4 from ee5) ?_
  refine lv_imul hx hb dX12_acts_8 ?_
  refine lv_topi (fun z128 e129 => ?_)
  have t130 := ib_cmul (q := 4) e129 (by decide) (by decide) b77 (by decide) (by decide)
  have b131 : Bd z128 (0) (156) := ib_mulb t130 (by decide) b77
  refine lv_istore (lv' := [(5, .int z128), (0, .ref (ad 0)), (1, .int a1), (2, .int a2), (3, .int a3), (4, .int a4)]) hx hb dX12_acts_9 hl (by decide) rfl (fun ls hl => ?_)
  refine lv_aload_n hx hb dX12_acts_11 rfl (lv_at hl 1 rfl) ?_
  refine xget E hQ 0 (by decide) c127 rfl 22 (by decide) q1490 rfl dX12_acts_12 ?_
  refine lv_iload hx hb dX12_acts_15 (lv_at hl 0 rfl) ?_
  refine lv_iload_n hx hb dX12_acts_17 rfl (lv_at hl 2 rfl) ?_
  refine xiast E hs hQ 12 (by decide) c79 (ib_in b131 (by decide) (by decide)) dX12_acts_18 (fun H locs S132 eS132 hQ => ?_)
  have hI := invM_up_12 hI eS132 ⟨_, rfl, ⟨upd_mn b80.1 (by rw [clampN b131]; omega), upd_mn b80.2 (by rw [clampN b131]; omega)⟩⟩
  have b134 : (∀ j, j % 4 = 1 → Bd ((upd f78 (z128 : Int32).toNatClampNeg a1) j) (0) (7)) ∧ (∀ j, j % 4 = 2 → Bd ((upd f78 (z128 : Int32).toNatClampNeg a1) j) (0) (400)) := ⟨upd_mn b80.1 (by rw [clampN b131]; omega), upd_mn b80.2 (by rw [clampN b131]; omega)⟩
  have c133 : S132 12 = .inl (g.2 0, 800, .inl (upd f78 (z128 : Int32).toNatClampNeg a1)) := up_at eS132 rfl
  refine lv_aload_n hx hb dX12_acts_19 rfl (lv_at hl 1 rfl) ?_
  have c135 : S132 0 = .inr (12, [.int v99, .ref (ad 1), .ref (ad 2), .ref (ad 3), .ref (ad 4), .ref (ad 5), .int v100, .int v102, .int v104, .int v106, .int v107, .long w108, .int v109, .int v111, .int v112, .int v113, .ref (ad 6), .ref (ad 7), .ref (ad 8), .ref (ad 9), .ref (ad 10), .ref (ad 11), .ref (ad 12), .ref (ad 13), .ref (ad 14), .ref (ad 15), .int v114, .int v116, .ref (ad 16), .int v118, .int v120, .int v122, .int v124, .int v125, .ref (ad 17), .ref (ad 18), .int v126, .ref (ad 19)]) := (up_ne eS132 (by decide) c127)
  refine xget E hQ 0 (by decide) c135 rfl 22 (by decide) q1490 rfl dX12_acts_20 ?_
  refine lv_iload hx hb dX12_acts_23 (lv_at hl 0 rfl) ?_
  refine lv_iconst (v := 1) hx hb dX12_acts_25 (by decide) ?_
  refine lv_iadd hx hb dX12_acts_26 ?_
  refine lv_topi (fun z136 e137 => ?_)
  have t138 := ib_add e137 b131 (by decide : Bd 1 (1) (1)) (by decide) (by decide)
  have b139 : Bd z136 (1) (157) := ib_addb t138 b131 (by decide : Bd 1 (1) (1))
  have t138 : z136.toInt = z128.toInt + 1 := fold_add t138 rfl (by decide)
  refine lv_iload_n hx hb dX12_acts_27 rfl (lv_at hl 3 rfl) ?_
  refine xiast E hs hQ 12 (by decide) c133 (ib_in b139 (by decide) (by decide)) dX12_acts_28 (fun H locs S140 eS140 hQ => ?_)
  have hI := invM_up_12 hI eS140 ⟨_, rfl, ⟨upd_m b134.1 ba2, upd_mn b134.2 (by rw [clampN b139]; omega)⟩⟩
  have b142 : (∀ j, j % 4 = 1 → Bd ((upd (upd f78 (z128 : Int32).toNatClampNeg a1) (z136 : Int32).toNatClampNeg a2) j) (0) (7)) ∧ (∀ j, j % 4 = 2 → Bd ((upd (upd f78 (z128 : Int32).toNatClampNeg a1) (z136 : Int32).toNatClampNeg a2) j) (0) (400)) := ⟨upd_m b134.1 ba2, upd_mn b134.2 (by rw [clampN b139]; omega)⟩
  have c141 : S140 12 = .inl (g.2 0, 800, .inl (upd (upd f78 (z128 : Int32).toNatClampNeg a1) (z136 : Int32).toNatClampNeg a2)) := up_at eS140 rfl
  refine lv_aload_n hx hb dX12_acts_29 rfl (lv_at hl 1 rfl) ?_
  have c143 : S140 0 = .inr (12, [.int v99, .ref (ad 1), .ref (ad 2), .ref (ad 3), .ref (ad 4), .ref (ad 5), .int v100, .int v102, .int v104, .int v106, .int v107, .long w108, .int v109, .int v111, .int v112, .int v113, .ref (ad 6), .ref (ad 7), .ref (ad 8), .ref (ad 9), .ref (ad 10), .ref (ad 11), .ref (ad 12), .ref (ad 13), .ref (ad 14), .ref (ad 15), .int v114, .int v116, .ref (ad 16), .int v118, .int v120, .int v122, .int v124, .int v125, .ref (ad 17), .ref (ad 18), .int v126, .ref (ad 19)]) := (up_ne eS140 (by decide) c135)
  refine xget E hQ 0 (by decide) c143 rfl 22 (by decide) q1490 rfl dX12_acts_30 ?_
  refine lv_iload hx hb dX12_acts_33 (lv_at hl 0 rfl) ?_
  refine lv_iconst (v := 2) hx hb dX12_acts_35 (by decide) ?_
  refine lv_iadd hx hb dX12_acts_36 ?_
  refine lv_topi (fun z144 e145 => ?_)
  have t146 := ib_add e145 b131 (by decide : Bd 2 (2) (2)) (by decide) (by decide)
  have b147 : Bd z144 (2) (158) := ib_addb t146 b131 (by decide : Bd 2 (2) (2))
  have t146 : z144.toInt = z128.toInt + 2 := fold_add t146 rfl (by decide)
  refine lv_iload_n hx hb dX12_acts_37 rfl (lv_at hl 4 rfl) ?_
  refine xiast E hs hQ 12 (by decide) c141 (ib_in b147 (by decide) (by decide)) dX12_acts_38 (fun H locs S148 eS148 hQ => ?_)
  have hI := invM_up_12 hI eS148 ⟨_, rfl, ⟨upd_mn b142.1 (by rw [clampN b147]; omega), upd_m b142.2 ba3⟩⟩
  have b150 : (∀ j, j % 4 = 1 → Bd ((upd (upd (upd f78 (z128 : Int32).toNatClampNeg a1) (z136 : Int32).toNatClampNeg a2) (z144 : Int32).toNatClampNeg a3) j) (0) (7)) ∧ (∀ j, j % 4 = 2 → Bd ((upd (upd (upd f78 (z128 : Int32).toNatClampNeg a1) (z136 : Int32).toNatClampNeg a2) (z144 : Int32).toNatClampNeg a3) j) (0) (400)) := ⟨upd_mn b142.1 (by rw [clampN b147]; omega), upd_m b142.2 ba3⟩
  have c149 : S148 12 = .inl (g.2 0, 800, .inl (upd (upd (upd f78 (z128 : Int32).toNatClampNeg a1) (z136 : Int32).toNatClampNeg a2) (z144 : Int32).toNatClampNeg a3)) := up_at eS148 rfl
  refine lv_aload_n hx hb dX12_acts_39 rfl (lv_at hl 1 rfl) ?_
  have c151 : S148 0 = .inr (12, [.int v99, .ref (ad 1), .ref (ad 2), .ref (ad 3), .ref (ad 4), .ref (ad 5), .int v100, .int v102, .int v104, .int v106, .int v107, .long w108, .int v109, .int v111, .int v112, .int v113, .ref (ad 6), .ref (ad 7), .ref (ad 8), .ref (ad 9), .ref (ad 10), .ref (ad 11), .ref (ad 12), .ref (ad 13), .ref (ad 14), .ref (ad 15), .int v114, .int v116, .ref (ad 16), .int v118, .int v120, .int v122, .int v124, .int v125, .ref (ad 17), .ref (ad 18), .int v126, .ref (ad 19)]) := (up_ne eS148 (by decide) c143)
  refine xget E hQ 0 (by decide) c151 rfl 22 (by decide) q1490 rfl dX12_acts_40 ?_
  refine lv_iload hx hb dX12_acts_43 (lv_at hl 0 rfl) ?_
  refine lv_iconst (v := 3) hx hb dX12_acts_45 (by decide) ?_
  refine lv_iadd hx hb dX12_acts_46 ?_
  refine lv_topi (fun z152 e153 => ?_)
  have t154 := ib_add e153 b131 (by decide : Bd 3 (3) (3)) (by decide) (by decide)
  have b155 : Bd z152 (3) (159) := ib_addb t154 b131 (by decide : Bd 3 (3) (3))
  have t154 : z152.toInt = z128.toInt + 3 := fold_add t154 rfl (by decide)
  refine lv_iload hx hb dX12_acts_47 (lv_at hl 5 rfl) ?_
  refine xiast E hs hQ 12 (by decide) c149 (ib_in b155 (by decide) (by decide)) dX12_acts_49 (fun H locs S156 eS156 hQ => ?_)
  have hI := invM_up_12 hI eS156 ⟨_, rfl, ⟨upd_mn b150.1 (by rw [clampN b155]; omega), upd_mn b150.2 (by rw [clampN b155]; omega)⟩⟩
  have b158 : (∀ j, j % 4 = 1 → Bd ((upd (upd (upd (upd f78 (z128 : Int32).toNatClampNeg a1) (z136 : Int32).toNatClampNeg a2) (z144 : Int32).toNatClampNeg a3) (z152 : Int32).toNatClampNeg a4) j) (0) (7)) ∧ (∀ j, j % 4 = 2 → Bd ((upd (upd (upd (upd f78 (z128 : Int32).toNatClampNeg a1) (z136 : Int32).toNatClampNeg a2) (z144 : Int32).toNatClampNeg a3) (z152 : Int32).toNatClampNeg a4) j) (0) (400)) := ⟨upd_mn b150.1 (by rw [clampN b155]; omega), upd_mn b150.2 (by rw [clampN b155]; omega)⟩
  have c157 : S156 12 = .inl (g.2 0, 800, .inl (upd (upd (upd (upd f78 (z128 : Int32).toNatClampNeg a1) (z136 : Int32).toNatClampNeg a2) (z144 : Int32).toNatClampNeg a3) (z152 : Int32).toNatClampNeg a4)) := up_at eS156 rfl
  refine lv_aload_n hx hb dX12_acts_50 rfl (lv_at hl 1 rfl) ?_
  have c159 : S156 0 = .inr (12, [.int v99, .ref (ad 1), .ref (ad 2), .ref (ad 3), .ref (ad 4), .ref (ad 5), .int v100, .int v102, .int v104, .int v106, .int v107, .long w108, .int v109, .int v111, .int v112, .int v113, .ref (ad 6), .ref (ad 7), .ref (ad 8), .ref (ad 9), .ref (ad 10), .ref (ad 11), .ref (ad 12), .ref (ad 13), .ref (ad 14), .ref (ad 15), .int v114, .int v116, .ref (ad 16), .int v118, .int v120, .int v122, .int v124, .int v125, .ref (ad 17), .ref (ad 18), .int v126, .ref (ad 19)]) := (up_ne eS156 (by decide) c151)
  refine xget E hQ 0 (by decide) c159 rfl 17 (by decide) q1485 rfl dX12_acts_51 ?_
  refine lv_bipush (v := 9) hx hb dX12_acts_54 (by decide) ?_
  refine lv_dup2_11 hx hb dX12_acts_56 rfl rfl ?_
  have c160 : S156 7 = .inl (g.2 0, 50, .inl f1) := (up_ne eS156 (by decide) (up_ne eS148 (by decide) (up_ne eS140 (by decide) (up_ne eS132 (by decide) c2))))
  refine xiald E hQ 7 (by decide) c160 (vp_in_lit 9 50 (by decide)) dX12_acts_57 ?_
  refine sb_at (P := fun z => W _ _ _ _ _ _ _ _ _ _ _ _ _ _ _ (F0 _ _ _ (.int z :: _))) (show f1 (9 : Int32).toNatClampNeg = v4 from ee5) ?_
  refine lv_iconst (v := 1) hx hb dX12_acts_58 (by decide) ?_
  refine lv_iadd hx hb dX12_acts_59 ?_
  refine lv_topi (fun z161 e162 => ?_)
  have t163 := ib_add e162 b77 (by decide : Bd 1 (1) (1)) (by decide) (by decide)
  have b164 : Bd z161 (1) (40) := ib_addb t163 b77 (by decide : Bd 1 (1) (1))
  have t163 : z161.toInt = v4.toInt + 1 := fold_add t163 rfl (by decide)
  refine xiast E hs hQ 7 (by decide) c160 (vp_in_lit 9 50 (by decide)) dX12_acts_60 (fun H locs S165 eS165 hQ => ?_)
  have hI := invM_up_7 hI eS165 ⟨_, rfl, ⟨upd_mn b3.1 (by decide), upd_mn b3.2.1 (by decide), upd_mn b3.2.2.1 (by decide), upd_mn b3.2.2.2.1 (by decide), upd_mn b3.2.2.2.2.1 (by decide), upd_mn b3.2.2.2.2.2.1 (by decide), upd_mn b3.2.2.2.2.2.2.1 (by decide), upd_m b3.2.2.2.2.2.2.2 (ib_wk b164 (by decide) (by decide))⟩⟩
  have b167 : (∀ j, j % 10 = 0 → Bd ((upd f1 (9 : Int32).toNatClampNeg z161) j) (0) (12)) ∧ (∀ j, j % 10 = 1 → Bd ((upd f1 (9 : Int32).toNatClampNeg z161) j) (0) (12)) ∧ (∀ j, j % 10 = 2 → Bd ((upd f1 (9 : Int32).toNatClampNeg z161) j) (0) (6)) ∧ (∀ j, j % 10 = 3 → Bd ((upd f1 (9 : Int32).toNatClampNeg z161) j) (0) (12)) ∧ (∀ j, j % 10 = 6 → Bd ((upd f1 (9 : Int32).toNatClampNeg z161) j) (0) (8)) ∧ (∀ j, j % 10 = 7 → Bd ((upd f1 (9 : Int32).toNatClampNeg z161) j) (0) (6)) ∧ (∀ j, j % 10 = 8 → Bd ((upd f1 (9 : Int32).toNatClampNeg z161) j) (0) (3)) ∧ (∀ j, j % 10 = 9 → Bd ((upd f1 (9 : Int32).toNatClampNeg z161) j) (0) (40)) := ⟨upd_mn b3.1 (by decide), upd_mn b3.2.1 (by decide), upd_mn b3.2.2.1 (by decide), upd_mn b3.2.2.2.1 (by decide), upd_mn b3.2.2.2.2.1 (by decide), upd_mn b3.2.2.2.2.2.1 (by decide), upd_mn b3.2.2.2.2.2.2.1 (by decide), upd_m b3.2.2.2.2.2.2.2 (ib_wk b164 (by decide) (by decide))⟩
  have c166 : S165 7 = .inl (g.2 0, 50, .inl (upd f1 (9 : Int32).toNatClampNeg z161)) := up_at eS165 rfl
  have q168 : elm (S165 7) 9 = z161.toInt := (elm_of c166 9).trans (congrArg Int32.toInt ((upd_s)))
  have q169 : elm (S 7) 0 = v7.toInt := (elm_of c2 0).trans (congrArg Int32.toInt (ee8))
  have q170 : elm (S165 7) 0 = v7.toInt := (elm_of c166 0).trans (congrArg Int32.toInt (((upd_o (by decide)).trans (ee8))))
  have q171 : elm (S 7) 1 = v10.toInt := (elm_of c2 1).trans (congrArg Int32.toInt (ee11))
  have q172 : elm (S165 7) 1 = v10.toInt := (elm_of c166 1).trans (congrArg Int32.toInt (((upd_o (by decide)).trans (ee11))))
  have q173 : elm (S 7) 3 = v13.toInt := (elm_of c2 3).trans (congrArg Int32.toInt (ee14))
  have q174 : elm (S165 7) 3 = v13.toInt := (elm_of c166 3).trans (congrArg Int32.toInt (((upd_o (by decide)).trans (ee14))))
  have q175 : elm (S 7) 6 = v16.toInt := (elm_of c2 6).trans (congrArg Int32.toInt (ee17))
  have q176 : elm (S165 7) 6 = v16.toInt := (elm_of c166 6).trans (congrArg Int32.toInt (((upd_o (by decide)).trans (ee17))))
  have q177 : elm (S 7) 8 = v19.toInt := (elm_of c2 8).trans (congrArg Int32.toInt (ee20))
  have q178 : elm (S165 7) 8 = v19.toInt := (elm_of c166 8).trans (congrArg Int32.toInt (((upd_o (by decide)).trans (ee20))))
  have q179 : elm (S 7) 10 = v22.toInt := (elm_of c2 10).trans (congrArg Int32.toInt (ee23))
  have q180 : elm (S165 7) 10 = v22.toInt := (elm_of c166 10).trans (congrArg Int32.toInt (((upd_o (by decide)).trans (ee23))))
  have q181 : elm (S 7) 11 = v25.toInt := (elm_of c2 11).trans (congrArg Int32.toInt (ee26))
  have q182 : elm (S165 7) 11 = v25.toInt := (elm_of c166 11).trans (congrArg Int32.toInt (((upd_o (by decide)).trans (ee26))))
  have q183 : elm (S 7) 13 = v28.toInt := (elm_of c2 13).trans (congrArg Int32.toInt (ee29))
  have q184 : elm (S165 7) 13 = v28.toInt := (elm_of c166 13).trans (congrArg Int32.toInt (((upd_o (by decide)).trans (ee29))))
  have q185 : elm (S 7) 16 = v31.toInt := (elm_of c2 16).trans (congrArg Int32.toInt (ee32))
  have q186 : elm (S165 7) 16 = v31.toInt := (elm_of c166 16).trans (congrArg Int32.toInt (((upd_o (by decide)).trans (ee32))))
  have q187 : elm (S 7) 18 = v34.toInt := (elm_of c2 18).trans (congrArg Int32.toInt (ee35))
  have q188 : elm (S165 7) 18 = v34.toInt := (elm_of c166 18).trans (congrArg Int32.toInt (((upd_o (by decide)).trans (ee35))))
  have q189 : elm (S 7) 19 = v37.toInt := (elm_of c2 19).trans (congrArg Int32.toInt (ee38))
  have q190 : elm (S165 7) 19 = v37.toInt := (elm_of c166 19).trans (congrArg Int32.toInt (((upd_o (by decide)).trans (ee38))))
  have q191 : elm (S 7) 20 = v40.toInt := (elm_of c2 20).trans (congrArg Int32.toInt (ee41))
  have q192 : elm (S165 7) 20 = v40.toInt := (elm_of c166 20).trans (congrArg Int32.toInt (((upd_o (by decide)).trans (ee41))))
  have q193 : elm (S 7) 21 = v43.toInt := (elm_of c2 21).trans (congrArg Int32.toInt (ee44))
  have q194 : elm (S165 7) 21 = v43.toInt := (elm_of c166 21).trans (congrArg Int32.toInt (((upd_o (by decide)).trans (ee44))))
  have q195 : elm (S 7) 23 = v46.toInt := (elm_of c2 23).trans (congrArg Int32.toInt (ee47))
  have q196 : elm (S165 7) 23 = v46.toInt := (elm_of c166 23).trans (congrArg Int32.toInt (((upd_o (by decide)).trans (ee47))))
  have q197 : elm (S 7) 26 = v49.toInt := (elm_of c2 26).trans (congrArg Int32.toInt (ee50))
  have q198 : elm (S165 7) 26 = v49.toInt := (elm_of c166 26).trans (congrArg Int32.toInt (((upd_o (by decide)).trans (ee50))))
  have q199 : elm (S 7) 28 = v52.toInt := (elm_of c2 28).trans (congrArg Int32.toInt (ee53))
  have q200 : elm (S165 7) 28 = v52.toInt := (elm_of c166 28).trans (congrArg Int32.toInt (((upd_o (by decide)).trans (ee53))))
  have q201 : elm (S 7) 29 = v55.toInt := (elm_of c2 29).trans (congrArg Int32.toInt (ee56))
  have q202 : elm (S165 7) 29 = v55.toInt := (elm_of c166 29).trans (congrArg Int32.toInt (((upd_o (by decide)).trans (ee56))))
  have q203 : elm (S 7) 30 = v58.toInt := (elm_of c2 30).trans (congrArg Int32.toInt (ee59))
  have q204 : elm (S165 7) 30 = v58.toInt := (elm_of c166 30).trans (congrArg Int32.toInt (((upd_o (by decide)).trans (ee59))))
  have q205 : elm (S 7) 31 = v61.toInt := (elm_of c2 31).trans (congrArg Int32.toInt (ee62))
  have q206 : elm (S165 7) 31 = v61.toInt := (elm_of c166 31).trans (congrArg Int32.toInt (((upd_o (by decide)).trans (ee62))))
  have q207 : elm (S 7) 33 = v64.toInt := (elm_of c2 33).trans (congrArg Int32.toInt (ee65))
  have q208 : elm (S165 7) 33 = v64.toInt := (elm_of c166 33).trans (congrArg Int32.toInt (((upd_o (by decide)).trans (ee65))))
  have q209 : elm (S 7) 36 = v67.toInt := (elm_of c2 36).trans (congrArg Int32.toInt (ee68))
  have q210 : elm (S165 7) 36 = v67.toInt := (elm_of c166 36).trans (congrArg Int32.toInt (((upd_o (by decide)).trans (ee68))))
  have q211 : elm (S 7) 38 = v70.toInt := (elm_of c2 38).trans (congrArg Int32.toInt (ee71))
  have q212 : elm (S165 7) 38 = v70.toInt := (elm_of c166 38).trans (congrArg Int32.toInt (((upd_o (by decide)).trans (ee71))))
  have q213 : elm (S 7) 39 = v73.toInt := (elm_of c2 39).trans (congrArg Int32.toInt (ee74))
  have q214 : elm (S165 7) 39 = v73.toInt := (elm_of c166 39).trans (congrArg Int32.toInt (((upd_o (by decide)).trans (ee74))))
  have c215 : S165 12 = .inl (g.2 0, 800, .inl (upd (upd (upd (upd f78 (z128 : Int32).toNatClampNeg a1) (z136 : Int32).toNatClampNeg a2) (z144 : Int32).toNatClampNeg a3) (z152 : Int32).toNatClampNeg a4)) := (up_ne eS165 (by decide) c157)
  exact xrv E hr hlk hQ (⟨hI, (up_o (up_o (up_o (up_o (up_o o_refl eS132 (by decide)) eS140 (by decide)) eS148 (by decide)) eS156 (by decide)) eS165 (by decide)), ⟨by omega, by omega⟩, ⟨by omega, by omega⟩, ⟨by omega, by omega⟩, ⟨by omega, by omega⟩, ⟨by omega, by omega⟩, ⟨by omega, by omega⟩, ⟨by omega, by omega⟩, ⟨by omega, by omega⟩, ⟨by omega, by omega⟩, ⟨by omega, by omega⟩, ⟨by omega, by omega⟩, ⟨by omega, by omega⟩, ⟨by omega, by omega⟩, ⟨by omega, by omega⟩, ⟨by omega, by omega⟩, ⟨by omega, by omega⟩, ⟨by omega, by omega⟩, ⟨by omega, by omega⟩, ⟨by omega, by omega⟩, ⟨by omega, by omega⟩, ⟨by omega, by omega⟩, ⟨by omega, by omega⟩, ⟨by omega, by omega⟩, ⟨by omega, by omega⟩, (at_add (q := 0) c2 c79 c166 c215 b3.2.2.2.2.2.2.2 ee5 (by omega) b77 (by omega) (by omega) (by omega) (by omega) hw (by decide) hAT0), (at_add (q := 1) c2 c79 c166 c215 b3.2.2.2.2.2.2.2 ee5 (by omega) b77 (by omega) (by omega) (by omega) (by omega) hw (by decide) hAT1), (at_add (q := 2) c2 c79 c166 c215 b3.2.2.2.2.2.2.2 ee5 (by omega) b77 (by omega) (by omega) (by omega) (by omega) hw (by decide) hAT2), (at_add (q := 3) c2 c79 c166 c215 b3.2.2.2.2.2.2.2 ee5 (by omega) b77 (by omega) (by omega) (by omega) (by omega) hw (by decide) hAT3)⟩) dX12_acts_61
