set_option maxHeartbeats 4000000 in
set_option maxRecDepth 100000 in
theorem gX12_tells_5 (l : Launch) (g : GG) (ad : Nat → Nat) (hD : Dj ad 20) (S : SS) (hI : InvM g ad S) (a2 : Int32) : Met l yX12_tells (wG (.code yX12_tells cX12_tells 3 none)) (Rm 0) (XPre g ad 20 S [.ref (ad 0), .int 5, .int a2]) (va_Qv (fun S' => InvM g ad S' ∧ (∀ j, j ∉ ([7] : List Nat) → S' j = S j) ∧ (0 ≤ elm (S 7) 40 + (-1) * elm (S' 7) 40 ∧ 0 ≤ elm (S' 7) 40 + (-1) * elm (S 7) 40) ∧ (0 ≤ elm (S 7) 41 + (-1) * elm (S' 7) 41 ∧ 0 ≤ elm (S' 7) 41 + (-1) * elm (S 7) 41) ∧ (0 ≤ elm (S 7) 43 + (-1) * elm (S' 7) 43 ∧ 0 ≤ elm (S' 7) 43 + (-1) * elm (S 7) 43) ∧ (0 ≤ elm (S 7) 46 + (-1) * elm (S' 7) 46 ∧ 0 ≤ elm (S' 7) 46 + (-1) * elm (S 7) 46) ∧ (0 ≤ elm (S 7) 47 + (-1) * elm (S' 7) 47 ∧ 0 ≤ elm (S' 7) 47 + (-1) * elm (S 7) 47) ∧ (0 ≤ elm (S 7) 48 + (-1) * elm (S' 7) 48 ∧ 0 ≤ elm (S' 7) 48 + (-1) * elm (S 7) 48) ∧ (0 ≤ elm (S 7) 49 + (-1) * elm (S' 7) 49 ∧ 0 ≤ elm (S' 7) 49 + (-1) * elm (S 7) 49) ∧ EFp (S' 7) (S 7) 0 40) (QB g ad 20) (FA ad 20)) 0 0 (FA ad 20) := by
  refine xmet cX12_tells "EbbWreckModel" (by decide) rfl (Nat.le_of_ble_eq_true rfl) (fun p e s m below meth c E hr hlk hml hQ ls hl => ?_)
  have hx := E.1
  have hb := E.2.1
  have hs : Sp ad 20 (FA ad 20) := Sp.fa hD
  have hl : lv_has ls 3 [(0, .ref (ad 0)), (1, .int 5), (2, .int a2)] := hl
  obtain ⟨f1, c2, b3⟩ := invM_7 hI
  obtain ⟨v4, ee5⟩ : ∃ z : Int32, f1 40 = z := ⟨_, rfl⟩
  have b6 : Bd v4 (0) (12) := (by rw [← ee5]; exact b3.1 40 (by decide))
  obtain ⟨v7, ee8⟩ : ∃ z : Int32, f1 41 = z := ⟨_, rfl⟩
  have b9 : Bd v7 (0) (12) := (by rw [← ee8]; exact b3.2.1 41 (by decide))
  obtain ⟨v10, ee11⟩ : ∃ z : Int32, f1 43 = z := ⟨_, rfl⟩
  have b12 : Bd v10 (0) (12) := (by rw [← ee11]; exact b3.2.2.2.1 43 (by decide))
  obtain ⟨v13, ee14⟩ : ∃ z : Int32, f1 46 = z := ⟨_, rfl⟩
  have b15 : Bd v13 (0) (8) := (by rw [← ee14]; exact b3.2.2.2.2.1 46 (by decide))
  obtain ⟨v16, ee17⟩ : ∃ z : Int32, f1 47 = z := ⟨_, rfl⟩
  have b18 : Bd v16 (0) (6) := (by rw [← ee17]; exact b3.2.2.2.2.2.1 47 (by decide))
  obtain ⟨v19, ee20⟩ : ∃ z : Int32, f1 48 = z := ⟨_, rfl⟩
  have b21 : Bd v19 (0) (3) := (by rw [← ee20]; exact b3.2.2.2.2.2.2.1 48 (by decide))
  obtain ⟨v22, ee23⟩ : ∃ z : Int32, f1 49 = z := ⟨_, rfl⟩
  have b24 : Bd v22 (0) (40) := (by rw [← ee23]; exact b3.2.2.2.2.2.2.2 49 (by decide))
  have ef7_0 : EFp (S 7) (S 7) 0 40 := fun _ _ _ => rfl
  refine lv_aload_n hx hb dX12_tells_0 rfl (lv_at hl 0 rfl) ?_
  obtain ⟨v25, v26, v28, v30, v32, v33, w34, v35, v37, v38, v39, v40, v42, v44, v46, v48, v50, v51, v52, c53, b27, b29, b31, b36, b41, b43, b45, b47, b49⟩ := invM_0 hI
  have c53 : S 0 = .inr (12, [.int v25, .ref (ad 1), .ref (ad 2), .ref (ad 3), .ref (ad 4), .ref (ad 5), .int v26, .int v28, .int v30, .int v32, .int v33, .long w34, .int v35, .int v37, .int v38, .int v39, .ref (ad 6), .ref (ad 7), .ref (ad 8), .ref (ad 9), .ref (ad 10), .ref (ad 11), .ref (ad 12), .ref (ad 13), .ref (ad 14), .ref (ad 15), .int v40, .int v42, .ref (ad 16), .int v44, .int v46, .int v48, .int v50, .int v51, .ref (ad 17), .ref (ad 18), .int v52, .ref (ad 19)]) := c53
  refine xget E hQ 0 (by decide) c53 rfl 17 (by decide) q1485 rfl dX12_tells_1 ?_
  refine lv_bipush (v := 40) hx hb dX12_tells_4 (by decide) ?_
  refine lv_iload_n hx hb dX12_tells_6 rfl (lv_at hl 1 rfl) ?_
  refine lv_iadd hx hb dX12_tells_7 ?_
  refine sb_at (P := fun z => W _ _ _ _ _ _ _ _ _ _ _ _ _ _ _ (F0 _ _ _ (.int z :: _))) (show (40 : Int32) + 5 = 45 by decide) ?_
  refine lv_iload_n hx hb dX12_tells_8 rfl (lv_at hl 2 rfl) ?_
  refine xiast E hs hQ 7 (by decide) c2 (vp_in_lit 45 50 (by decide)) dX12_tells_9 (fun H locs S54 eS54 hQ => ?_)
  have hI := invM_up_7 hI eS54 ⟨_, rfl, ⟨upd_mn b3.1 (by decide), upd_mn b3.2.1 (by decide), upd_mn b3.2.2.1 (by decide), upd_mn b3.2.2.2.1 (by decide), upd_mn b3.2.2.2.2.1 (by decide), upd_mn b3.2.2.2.2.2.1 (by decide), upd_mn b3.2.2.2.2.2.2.1 (by decide), upd_mn b3.2.2.2.2.2.2.2 (by decide)⟩⟩
  have b56 : (∀ j, j % 10 = 0 → Bd ((upd f1 (45 : Int32).toNatClampNeg a2) j) (0) (12)) ∧ (∀ j, j % 10 = 1 → Bd ((upd f1 (45 : Int32).toNatClampNeg a2) j) (0) (12)) ∧ (∀ j, j % 10 = 2 → Bd ((upd f1 (45 : Int32).toNatClampNeg a2) j) (0) (6)) ∧ (∀ j, j % 10 = 3 → Bd ((upd f1 (45 : Int32).toNatClampNeg a2) j) (0) (12)) ∧ (∀ j, j % 10 = 6 → Bd ((upd f1 (45 : Int32).toNatClampNeg a2) j) (0) (8)) ∧ (∀ j, j % 10 = 7 → Bd ((upd f1 (45 : Int32).toNatClampNeg a2) j) (0) (6)) ∧ (∀ j, j % 10 = 8 → Bd ((upd f1 (45 : Int32).toNatClampNeg a2) j) (0) (3)) ∧ (∀ j, j % 10 = 9 → Bd ((upd f1 (45 : Int32).toNatClampNeg a2) j) (0) (40)) := ⟨upd_mn b3.1 (by decide), upd_mn b3.2.1 (by decide), upd_mn b3.2.2.1 (by decide), upd_mn b3.2.2.2.1 (by decide), upd_mn b3.2.2.2.2.1 (by decide), upd_mn b3.2.2.2.2.2.1 (by decide), upd_mn b3.2.2.2.2.2.2.1 (by decide), upd_mn b3.2.2.2.2.2.2.2 (by decide)⟩
  have c55 : S54 7 = .inl (g.2 0, 50, .inl (upd f1 (45 : Int32).toNatClampNeg a2)) := up_at eS54 rfl
  have ef57 : EFp (S54 7) (S 7) 0 40 := ef_up ef7_0 c2 c55 (by decide)
  have q58 : elm (S 7) 40 = v4.toInt := (elm_of c2 40).trans (congrArg Int32.toInt (ee5))
  have q59 : elm (S54 7) 40 = v4.toInt := (elm_of c55 40).trans (congrArg Int32.toInt (((upd_o (by decide)).trans (ee5))))
  have q60 : elm (S 7) 41 = v7.toInt := (elm_of c2 41).trans (congrArg Int32.toInt (ee8))
  have q61 : elm (S54 7) 41 = v7.toInt := (elm_of c55 41).trans (congrArg Int32.toInt (((upd_o (by decide)).trans (ee8))))
  have q62 : elm (S 7) 43 = v10.toInt := (elm_of c2 43).trans (congrArg Int32.toInt (ee11))
  have q63 : elm (S54 7) 43 = v10.toInt := (elm_of c55 43).trans (congrArg Int32.toInt (((upd_o (by decide)).trans (ee11))))
  have q64 : elm (S 7) 46 = v13.toInt := (elm_of c2 46).trans (congrArg Int32.toInt (ee14))
  have q65 : elm (S54 7) 46 = v13.toInt := (elm_of c55 46).trans (congrArg Int32.toInt (((upd_o (by decide)).trans (ee14))))
  have q66 : elm (S 7) 47 = v16.toInt := (elm_of c2 47).trans (congrArg Int32.toInt (ee17))
  have q67 : elm (S54 7) 47 = v16.toInt := (elm_of c55 47).trans (congrArg Int32.toInt (((upd_o (by decide)).trans (ee17))))
  have q68 : elm (S 7) 48 = v19.toInt := (elm_of c2 48).trans (congrArg Int32.toInt (ee20))
  have q69 : elm (S54 7) 48 = v19.toInt := (elm_of c55 48).trans (congrArg Int32.toInt (((upd_o (by decide)).trans (ee20))))
  have q70 : elm (S 7) 49 = v22.toInt := (elm_of c2 49).trans (congrArg Int32.toInt (ee23))
  have q71 : elm (S54 7) 49 = v22.toInt := (elm_of c55 49).trans (congrArg Int32.toInt (((upd_o (by decide)).trans (ee23))))
  exact xrv E hr hlk hQ (⟨hI, (up_o o_refl eS54 (by decide)), ⟨by omega, by omega⟩, ⟨by omega, by omega⟩, ⟨by omega, by omega⟩, ⟨by omega, by omega⟩, ⟨by omega, by omega⟩, ⟨by omega, by omega⟩, ⟨by omega, by omega⟩, ef57⟩) dX12_tells_10
set_option maxHeartbeats 4000000 in
set_option maxRecDepth 100000 in
theorem gX12_tells_6 (l : Launch) (g : GG) (ad : Nat → Nat) (hD : Dj ad 20) (S : SS) (hI : InvM g ad S) (a2 : Int32) (ba2 : Bd a2 (0) (8)) : Met l yX12_tells (wG (.code yX12_tells cX12_tells 3 none)) (Rm 0) (XPre g ad 20 S [.ref (ad 0), .int 6, .int a2]) (va_Qv (fun S' => InvM g ad S' ∧ (∀ j, j ∉ ([7] : List Nat) → S' j = S j) ∧ (0 ≤ a2.toInt + (-1) * elm (S' 7) 46 ∧ 0 ≤ elm (S' 7) 46 + (-1) * a2.toInt) ∧ (0 ≤ elm (S 7) 40 + (-1) * elm (S' 7) 40 ∧ 0 ≤ elm (S' 7) 40 + (-1) * elm (S 7) 40) ∧ (0 ≤ elm (S 7) 41 + (-1) * elm (S' 7) 41 ∧ 0 ≤ elm (S' 7) 41 + (-1) * elm (S 7) 41) ∧ (0 ≤ elm (S 7) 43 + (-1) * elm (S' 7) 43 ∧ 0 ≤ elm (S' 7) 43 + (-1) * elm (S 7) 43) ∧ (0 ≤ elm (S 7) 47 + (-1) * elm (S' 7) 47 ∧ 0 ≤ elm (S' 7) 47 + (-1) * elm (S 7) 47) ∧ (0 ≤ elm (S 7) 48 + (-1) * elm (S' 7) 48 ∧ 0 ≤ elm (S' 7) 48 + (-1) * elm (S 7) 48) ∧ (0 ≤ elm (S 7) 49 + (-1) * elm (S' 7) 49 ∧ 0 ≤ elm (S' 7) 49 + (-1) * elm (S 7) 49) ∧ EFp (S' 7) (S 7) 0 40) (QB g ad 20) (FA ad 20)) 0 0 (FA ad 20) := by
  refine xmet cX12_tells "EbbWreckModel" (by decide) rfl (Nat.le_of_ble_eq_true rfl) (fun p e s m below meth c E hr hlk hml hQ ls hl => ?_)
  have hx := E.1
  have hb := E.2.1
  have hs : Sp ad 20 (FA ad 20) := Sp.fa hD
  have hl : lv_has ls 3 [(0, .ref (ad 0)), (1, .int 6), (2, .int a2)] := hl
  obtain ⟨f1, c2, b3⟩ := invM_7 hI
  obtain ⟨v4, ee5⟩ : ∃ z : Int32, f1 46 = z := ⟨_, rfl⟩
  have b6 : Bd v4 (0) (8) := (by rw [← ee5]; exact b3.2.2.2.2.1 46 (by decide))
  obtain ⟨v7, ee8⟩ : ∃ z : Int32, f1 40 = z := ⟨_, rfl⟩
  have b9 : Bd v7 (0) (12) := (by rw [← ee8]; exact b3.1 40 (by decide))
  obtain ⟨v10, ee11⟩ : ∃ z : Int32, f1 41 = z := ⟨_, rfl⟩
  have b12 : Bd v10 (0) (12) := (by rw [← ee11]; exact b3.2.1 41 (by decide))
  obtain ⟨v13, ee14⟩ : ∃ z : Int32, f1 43 = z := ⟨_, rfl⟩
  have b15 : Bd v13 (0) (12) := (by rw [← ee14]; exact b3.2.2.2.1 43 (by decide))
  obtain ⟨v16, ee17⟩ : ∃ z : Int32, f1 47 = z := ⟨_, rfl⟩
  have b18 : Bd v16 (0) (6) := (by rw [← ee17]; exact b3.2.2.2.2.2.1 47 (by decide))
  obtain ⟨v19, ee20⟩ : ∃ z : Int32, f1 48 = z := ⟨_, rfl⟩
  have b21 : Bd v19 (0) (3) := (by rw [← ee20]; exact b3.2.2.2.2.2.2.1 48 (by decide))
  obtain ⟨v22, ee23⟩ : ∃ z : Int32, f1 49 = z := ⟨_, rfl⟩
  have b24 : Bd v22 (0) (40) := (by rw [← ee23]; exact b3.2.2.2.2.2.2.2 49 (by decide))
  have ef7_0 : EFp (S 7) (S 7) 0 40 := fun _ _ _ => rfl
  refine lv_aload_n hx hb dX12_tells_0 rfl (lv_at hl 0 rfl) ?_
  obtain ⟨v25, v26, v28, v30, v32, v33, w34, v35, v37, v38, v39, v40, v42, v44, v46, v48, v50, v51, v52, c53, b27, b29, b31, b36, b41, b43, b45, b47, b49⟩ := invM_0 hI
  have c53 : S 0 = .inr (12, [.int v25, .ref (ad 1), .ref (ad 2), .ref (ad 3), .ref (ad 4), .ref (ad 5), .int v26, .int v28, .int v30, .int v32, .int v33, .long w34, .int v35, .int v37, .int v38, .int v39, .ref (ad 6), .ref (ad 7), .ref (ad 8), .ref (ad 9), .ref (ad 10), .ref (ad 11), .ref (ad 12), .ref (ad 13), .ref (ad 14), .ref (ad 15), .int v40, .int v42, .ref (ad 16), .int v44, .int v46, .int v48, .int v50, .int v51, .ref (ad 17), .ref (ad 18), .int v52, .ref (ad 19)]) := c53
  refine xget E hQ 0 (by decide) c53 rfl 17 (by decide) q1485 rfl dX12_tells_1 ?_
  refine lv_bipush (v := 40) hx hb dX12_tells_4 (by decide) ?_
  refine lv_iload_n hx hb dX12_tells_6 rfl (lv_at hl 1 rfl) ?_
  refine lv_iadd hx hb dX12_tells_7 ?_
  refine sb_at (P := fun z => W _ _ _ _ _ _ _ _ _ _ _ _ _ _ _ (F0 _ _ _ (.int z :: _))) (show (40 : Int32) + 6 = 46 by decide) ?_
  refine lv_iload_n hx hb dX12_tells_8 rfl (lv_at hl 2 rfl) ?_
  refine xiast E hs hQ 7 (by decide) c2 (vp_in_lit 46 50 (by decide)) dX12_tells_9 (fun H locs S54 eS54 hQ => ?_)
  have hI := invM_up_7 hI eS54 ⟨_, rfl, ⟨upd_mn b3.1 (by decide), upd_mn b3.2.1 (by decide), upd_mn b3.2.2.1 (by decide), upd_mn b3.2.2.2.1 (by decide), upd_m b3.2.2.2.2.1 ba2, upd_mn b3.2.2.2.2.2.1 (by decide), upd_mn b3.2.2.2.2.2.2.1 (by decide), upd_mn b3.2.2.2.2.2.2.2 (by decide)⟩⟩
  have b56 : (∀ j, j % 10 = 0 → Bd ((upd f1 (46 : Int32).toNatClampNeg a2) j) (0) (12)) ∧ (∀ j, j % 10 = 1 → Bd ((upd f1 (46 : Int32).toNatClampNeg a2) j) (0) (12)) ∧ (∀ j, j % 10 = 2 → Bd ((upd f1 (46 : Int32).toNatClampNeg a2) j) (0) (6)) ∧ (∀ j, j % 10 = 3 → Bd ((upd f1 (46 : Int32).toNatClampNeg a2) j) (0) (12)) ∧ (∀ j, j % 10 = 6 → Bd ((upd f1 (46 : Int32).toNatClampNeg a2) j) (0) (8)) ∧ (∀ j, j % 10 = 7 → Bd ((upd f1 (46 : Int32).toNatClampNeg a2) j) (0) (6)) ∧ (∀ j, j % 10 = 8 → Bd ((upd f1 (46 : Int32).toNatClampNeg a2) j) (0) (3)) ∧ (∀ j, j % 10 = 9 → Bd ((upd f1 (46 : Int32).toNatClampNeg a2) j) (0) (40)) := ⟨upd_mn b3.1 (by decide), upd_mn b3.2.1 (by decide), upd_mn b3.2.2.1 (by decide), upd_mn b3.2.2.2.1 (by decide), upd_m b3.2.2.2.2.1 ba2, upd_mn b3.2.2.2.2.2.1 (by decide), upd_mn b3.2.2.2.2.2.2.1 (by decide), upd_mn b3.2.2.2.2.2.2.2 (by decide)⟩
  have c55 : S54 7 = .inl (g.2 0, 50, .inl (upd f1 (46 : Int32).toNatClampNeg a2)) := up_at eS54 rfl
  have ef57 : EFp (S54 7) (S 7) 0 40 := ef_up ef7_0 c2 c55 (by decide)
  have q58 : elm (S54 7) 46 = a2.toInt := (elm_of c55 46).trans (congrArg Int32.toInt ((upd_s)))
  have q59 : elm (S 7) 40 = v7.toInt := (elm_of c2 40).trans (congrArg Int32.toInt (ee8))
  have q60 : elm (S54 7) 40 = v7.toInt := (elm_of c55 40).trans (congrArg Int32.toInt (((upd_o (by decide)).trans (ee8))))
  have q61 : elm (S 7) 41 = v10.toInt := (elm_of c2 41).trans (congrArg Int32.toInt (ee11))
  have q62 : elm (S54 7) 41 = v10.toInt := (elm_of c55 41).trans (congrArg Int32.toInt (((upd_o (by decide)).trans (ee11))))
  have q63 : elm (S 7) 43 = v13.toInt := (elm_of c2 43).trans (congrArg Int32.toInt (ee14))
  have q64 : elm (S54 7) 43 = v13.toInt := (elm_of c55 43).trans (congrArg Int32.toInt (((upd_o (by decide)).trans (ee14))))
  have q65 : elm (S 7) 47 = v16.toInt := (elm_of c2 47).trans (congrArg Int32.toInt (ee17))
  have q66 : elm (S54 7) 47 = v16.toInt := (elm_of c55 47).trans (congrArg Int32.toInt (((upd_o (by decide)).trans (ee17))))
  have q67 : elm (S 7) 48 = v19.toInt := (elm_of c2 48).trans (congrArg Int32.toInt (ee20))
  have q68 : elm (S54 7) 48 = v19.toInt := (elm_of c55 48).trans (congrArg Int32.toInt (((upd_o (by decide)).trans (ee20))))
  have q69 : elm (S 7) 49 = v22.toInt := (elm_of c2 49).trans (congrArg Int32.toInt (ee23))
  have q70 : elm (S54 7) 49 = v22.toInt := (elm_of c55 49).trans (congrArg Int32.toInt (((upd_o (by decide)).trans (ee23))))
  exact xrv E hr hlk hQ (⟨hI, (up_o o_refl eS54 (by decide)), ⟨by omega, by omega⟩, ⟨by omega, by omega⟩, ⟨by omega, by omega⟩, ⟨by omega, by omega⟩, ⟨by omega, by omega⟩, ⟨by omega, by omega⟩, ⟨by omega, by omega⟩, ef57⟩) dX12_tells_10
set_option maxHeartbeats 4000000 in
set_option maxRecDepth 100000 in
theorem gX12_tells_7 (l : Launch) (g : GG) (ad : Nat → Nat) (hD : Dj ad 20) (S : SS) (hI : InvM g ad S) (a2 : Int32) (ba2 : Bd a2 (0) (6)) : Met l yX12_tells (wG (.code yX12_tells cX12_tells 3 none)) (Rm 0) (XPre g ad 20 S [.ref (ad 0), .int 7, .int a2]) (va_Qv (fun S' => InvM g ad S' ∧ (∀ j, j ∉ ([7] : List Nat) → S' j = S j) ∧ (0 ≤ a2.toInt + (-1) * elm (S' 7) 47 ∧ 0 ≤ elm (S' 7) 47 + (-1) * a2.toInt) ∧ (0 ≤ elm (S 7) 40 + (-1) * elm (S' 7) 40 ∧ 0 ≤ elm (S' 7) 40 + (-1) * elm (S 7) 40) ∧ (0 ≤ elm (S 7) 41 + (-1) * elm (S' 7) 41 ∧ 0 ≤ elm (S' 7) 41 + (-1) * elm (S 7) 41) ∧ (0 ≤ elm (S 7) 43 + (-1) * elm (S' 7) 43 ∧ 0 ≤ elm (S' 7) 43 + (-1) * elm (S 7) 43) ∧ (0 ≤ elm (S 7) 46 + (-1) * elm (S' 7) 46 ∧ 0 ≤ elm (S' 7) 46 + (-1) * elm (S 7) 46) ∧ (0 ≤ elm (S 7) 48 + (-1) * elm (S' 7) 48 ∧ 0 ≤ elm (S' 7) 48 + (-1) * elm (S 7) 48) ∧ (0 ≤ elm (S 7) 49 + (-1) * elm (S' 7) 49 ∧ 0 ≤ elm (S' 7) 49 + (-1) * elm (S 7) 49) ∧ EFp (S' 7) (S 7) 0 40) (QB g ad 20) (FA ad 20)) 0 0 (FA ad 20) := by
  refine xmet cX12_tells "EbbWreckModel" (by decide) rfl (Nat.le_of_ble_eq_true rfl) (fun p e s m below meth c E hr hlk hml hQ ls hl => ?_)
  have hx := E.1
  have hb := E.2.1
  have hs : Sp ad 20 (FA ad 20) := Sp.fa hD
  have hl : lv_has ls 3 [(0, .ref (ad 0)), (1, .int 7), (2, .int a2)] := hl
  obtain ⟨f1, c2, b3⟩ := invM_7 hI
  obtain ⟨v4, ee5⟩ : ∃ z : Int32, f1 47 = z := ⟨_, rfl⟩
  have b6 : Bd v4 (0) (6) := (by rw [← ee5]; exact b3.2.2.2.2.2.1 47 (by decide))
  obtain ⟨v7, ee8⟩ : ∃ z : Int32, f1 40 = z := ⟨_, rfl⟩
  have b9 : Bd v7 (0) (12) := (by rw [← ee8]; exact b3.1 40 (by decide))
  obtain ⟨v10, ee11⟩ : ∃ z : Int32, f1 41 = z := ⟨_, rfl⟩
  have b12 : Bd v10 (0) (12) := (by rw [← ee11]; exact b3.2.1 41 (by decide))
  obtain ⟨v13, ee14⟩ : ∃ z : Int32, f1 43 = z := ⟨_, rfl⟩
  have b15 : Bd v13 (0) (12) := (by rw [← ee14]; exact b3.2.2.2.1 43 (by decide))
  obtain ⟨v16, ee17⟩ : ∃ z : Int32, f1 46 = z := ⟨_, rfl⟩
  have b18 : Bd v16 (0) (8) := (by rw [← ee17]; exact b3.2.2.2.2.1 46 (by decide))
  obtain ⟨v19, ee20⟩ : ∃ z : Int32, f1 48 = z := ⟨_, rfl⟩
  have b21 : Bd v19 (0) (3) := (by rw [← ee20]; exact b3.2.2.2.2.2.2.1 48 (by decide))
  obtain ⟨v22, ee23⟩ : ∃ z : Int32, f1 49 = z := ⟨_, rfl⟩
  have b24 : Bd v22 (0) (40) := (by rw [← ee23]; exact b3.2.2.2.2.2.2.2 49 (by decide))
  have ef7_0 : EFp (S 7) (S 7) 0 40 := fun _ _ _ => rfl
  refine lv_aload_n hx hb dX12_tells_0 rfl (lv_at hl 0 rfl) ?_
  obtain ⟨v25, v26, v28, v30, v32, v33, w34, v35, v37, v38, v39, v40, v42, v44, v46, v48, v50, v51, v52, c53, b27, b29, b31, b36, b41, b43, b45, b47, b49⟩ := invM_0 hI
  have c53 : S 0 = .inr (12, [.int v25, .ref (ad 1), .ref (ad 2), .ref (ad 3), .ref (ad 4), .ref (ad 5), .int v26, .int v28, .int v30, .int v32, .int v33, .long w34, .int v35, .int v37, .int v38, .int v39, .ref (ad 6), .ref (ad 7), .ref (ad 8), .ref (ad 9), .ref (ad 10), .ref (ad 11), .ref (ad 12), .ref (ad 13), .ref (ad 14), .ref (ad 15), .int v40, .int v42, .ref (ad 16), .int v44, .int v46, .int v48, .int v50, .int v51, .ref (ad 17), .ref (ad 18), .int v52, .ref (ad 19)]) := c53
  refine xget E hQ 0 (by decide) c53 rfl 17 (by decide) q1485 rfl dX12_tells_1 ?_
  refine lv_bipush (v := 40) hx hb dX12_tells_4 (by decide) ?_
  refine lv_iload_n hx hb dX12_tells_6 rfl (lv_at hl 1 rfl) ?_
  refine lv_iadd hx hb dX12_tells_7 ?_
  refine sb_at (P := fun z => W _ _ _ _ _ _ _ _ _ _ _ _ _ _ _ (F0 _ _ _ (.int z :: _))) (show (40 : Int32) + 7 = 47 by decide) ?_
  refine lv_iload_n hx hb dX12_tells_8 rfl (lv_at hl 2 rfl) ?_
  refine xiast E hs hQ 7 (by decide) c2 (vp_in_lit 47 50 (by decide)) dX12_tells_9 (fun H locs S54 eS54 hQ => ?_)
  have hI := invM_up_7 hI eS54 ⟨_, rfl, ⟨upd_mn b3.1 (by decide), upd_mn b3.2.1 (by decide), upd_mn b3.2.2.1 (by decide), upd_mn b3.2.2.2.1 (by decide), upd_mn b3.2.2.2.2.1 (by decide), upd_m b3.2.2.2.2.2.1 ba2, upd_mn b3.2.2.2.2.2.2.1 (by decide), upd_mn b3.2.2.2.2.2.2.2 (by decide)⟩⟩
  have b56 : (∀ j, j % 10 = 0 → Bd ((upd f1 (47 : Int32).toNatClampNeg a2) j) (0) (12)) ∧ (∀ j, j % 10 = 1 → Bd ((upd f1 (47 : Int32).toNatClampNeg a2) j) (0) (12)) ∧ (∀ j, j % 10 = 2 → Bd ((upd f1 (47 : Int32).toNatClampNeg a2) j) (0) (6)) ∧ (∀ j, j % 10 = 3 → Bd ((upd f1 (47 : Int32).toNatClampNeg a2) j) (0) (12)) ∧ (∀ j, j % 10 = 6 → Bd ((upd f1 (47 : Int32).toNatClampNeg a2) j) (0) (8)) ∧ (∀ j, j % 10 = 7 → Bd ((upd f1 (47 : Int32).toNatClampNeg a2) j) (0) (6)) ∧ (∀ j, j % 10 = 8 → Bd ((upd f1 (47 : Int32).toNatClampNeg a2) j) (0) (3)) ∧ (∀ j, j % 10 = 9 → Bd ((upd f1 (47 : Int32).toNatClampNeg a2) j) (0) (40)) := ⟨upd_mn b3.1 (by decide), upd_mn b3.2.1 (by decide), upd_mn b3.2.2.1 (by decide), upd_mn b3.2.2.2.1 (by decide), upd_mn b3.2.2.2.2.1 (by decide), upd_m b3.2.2.2.2.2.1 ba2, upd_mn b3.2.2.2.2.2.2.1 (by decide), upd_mn b3.2.2.2.2.2.2.2 (by decide)⟩
  have c55 : S54 7 = .inl (g.2 0, 50, .inl (upd f1 (47 : Int32).toNatClampNeg a2)) := up_at eS54 rfl
  have ef57 : EFp (S54 7) (S 7) 0 40 := ef_up ef7_0 c2 c55 (by decide)
  have q58 : elm (S54 7) 47 = a2.toInt := (elm_of c55 47).trans (congrArg Int32.toInt ((upd_s)))
  have q59 : elm (S 7) 40 = v7.toInt := (elm_of c2 40).trans (congrArg Int32.toInt (ee8))
  have q60 : elm (S54 7) 40 = v7.toInt := (elm_of c55 40).trans (congrArg Int32.toInt (((upd_o (by decide)).trans (ee8))))
  have q61 : elm (S 7) 41 = v10.toInt := (elm_of c2 41).trans (congrArg Int32.toInt (ee11))
  have q62 : elm (S54 7) 41 = v10.toInt := (elm_of c55 41).trans (congrArg Int32.toInt (((upd_o (by decide)).trans (ee11))))
  have q63 : elm (S 7) 43 = v13.toInt := (elm_of c2 43).trans (congrArg Int32.toInt (ee14))
  have q64 : elm (S54 7) 43 = v13.toInt := (elm_of c55 43).trans (congrArg Int32.toInt (((upd_o (by decide)).trans (ee14))))
  have q65 : elm (S 7) 46 = v16.toInt := (elm_of c2 46).trans (congrArg Int32.toInt (ee17))
  have q66 : elm (S54 7) 46 = v16.toInt := (elm_of c55 46).trans (congrArg Int32.toInt (((upd_o (by decide)).trans (ee17))))
  have q67 : elm (S 7) 48 = v19.toInt := (elm_of c2 48).trans (congrArg Int32.toInt (ee20))
  have q68 : elm (S54 7) 48 = v19.toInt := (elm_of c55 48).trans (congrArg Int32.toInt (((upd_o (by decide)).trans (ee20))))
  have q69 : elm (S 7) 49 = v22.toInt := (elm_of c2 49).trans (congrArg Int32.toInt (ee23))
  have q70 : elm (S54 7) 49 = v22.toInt := (elm_of c55 49).trans (congrArg Int32.toInt (((upd_o (by decide)).trans (ee23))))
  exact xrv E hr hlk hQ (⟨hI, (up_o o_refl eS54 (by decide)), ⟨by omega, by omega⟩, ⟨by omega, by omega⟩, ⟨by omega, by omega⟩, ⟨by omega, by omega⟩, ⟨by omega, by omega⟩, ⟨by omega, by omega⟩, ⟨by omega, by omega⟩, ef57⟩) dX12_tells_10
set_option maxHeartbeats 4000000 in
set_option maxRecDepth 100000 in
theorem gX12_tells_8 (l : Launch) (g : GG) (ad : Nat → Nat) (hD : Dj ad 20) (S : SS) (hI : InvM g ad S) (a2 : Int32) (ba2 : Bd a2 (0) (3)) : Met l yX12_tells (wG (.code yX12_tells cX12_tells 3 none)) (Rm 0) (XPre g ad 20 S [.ref (ad 0), .int 8, .int a2]) (va_Qv (fun S' => InvM g ad S' ∧ (∀ j, j ∉ ([7] : List Nat) → S' j = S j) ∧ (0 ≤ a2.toInt + (-1) * elm (S' 7) 48 ∧ 0 ≤ elm (S' 7) 48 + (-1) * a2.toInt) ∧ (0 ≤ elm (S 7) 40 + (-1) * elm (S' 7) 40 ∧ 0 ≤ elm (S' 7) 40 + (-1) * elm (S 7) 40) ∧ (0 ≤ elm (S 7) 41 + (-1) * elm (S' 7) 41 ∧ 0 ≤ elm (S' 7) 41 + (-1) * elm (S 7) 41) ∧ (0 ≤ elm (S 7) 43 + (-1) * elm (S' 7) 43 ∧ 0 ≤ elm (S' 7) 43 + (-1) * elm (S 7) 43) ∧ (0 ≤ elm (S 7) 46 + (-1) * elm (S' 7) 46 ∧ 0 ≤ elm (S' 7) 46 + (-1) * elm (S 7) 46) ∧ (0 ≤ elm (S 7) 47 + (-1) * elm (S' 7) 47 ∧ 0 ≤ elm (S' 7) 47 + (-1) * elm (S 7) 47) ∧ (0 ≤ elm (S 7) 49 + (-1) * elm (S' 7) 49 ∧ 0 ≤ elm (S' 7) 49 + (-1) * elm (S 7) 49) ∧ EFp (S' 7) (S 7) 0 40) (QB g ad 20) (FA ad 20)) 0 0 (FA ad 20) := by
  refine xmet cX12_tells "EbbWreckModel" (by decide) rfl (Nat.le_of_ble_eq_true rfl) (fun p e s m below meth c E hr hlk hml hQ ls hl => ?_)
  have hx := E.1
  have hb := E.2.1
  have hs : Sp ad 20 (FA ad 20) := Sp.fa hD
  have hl : lv_has ls 3 [(0, .ref (ad 0)), (1, .int 8), (2, .int a2)] := hl
  obtain ⟨f1, c2, b3⟩ := invM_7 hI
  obtain ⟨v4, ee5⟩ : ∃ z : Int32, f1 48 = z := ⟨_, rfl⟩
  have b6 : Bd v4 (0) (3) := (by rw [← ee5]; exact b3.2.2.2.2.2.2.1 48 (by decide))
  obtain ⟨v7, ee8⟩ : ∃ z : Int32, f1 40 = z := ⟨_, rfl⟩
  have b9 : Bd v7 (0) (12) := (by rw [← ee8]; exact b3.1 40 (by decide))
  obtain ⟨v10, ee11⟩ : ∃ z : Int32, f1 41 = z := ⟨_, rfl⟩
  have b12 : Bd v10 (0) (12) := (by rw [← ee11]; exact b3.2.1 41 (by decide))
  obtain ⟨v13, ee14⟩ : ∃ z : Int32, f1 43 = z := ⟨_, rfl⟩
  have b15 : Bd v13 (0) (12) := (by rw [← ee14]; exact b3.2.2.2.1 43 (by decide))
  obtain ⟨v16, ee17⟩ : ∃ z : Int32, f1 46 = z := ⟨_, rfl⟩
  have b18 : Bd v16 (0) (8) := (by rw [← ee17]; exact b3.2.2.2.2.1 46 (by decide))
  obtain ⟨v19, ee20⟩ : ∃ z : Int32, f1 47 = z := ⟨_, rfl⟩
  have b21 : Bd v19 (0) (6) := (by rw [← ee20]; exact b3.2.2.2.2.2.1 47 (by decide))
  obtain ⟨v22, ee23⟩ : ∃ z : Int32, f1 49 = z := ⟨_, rfl⟩
  have b24 : Bd v22 (0) (40) := (by rw [← ee23]; exact b3.2.2.2.2.2.2.2 49 (by decide))
  have ef7_0 : EFp (S 7) (S 7) 0 40 := fun _ _ _ => rfl
  refine lv_aload_n hx hb dX12_tells_0 rfl (lv_at hl 0 rfl) ?_
  obtain ⟨v25, v26, v28, v30, v32, v33, w34, v35, v37, v38, v39, v40, v42, v44, v46, v48, v50, v51, v52, c53, b27, b29, b31, b36, b41, b43, b45, b47, b49⟩ := invM_0 hI
  have c53 : S 0 = .inr (12, [.int v25, .ref (ad 1), .ref (ad 2), .ref (ad 3), .ref (ad 4), .ref (ad 5), .int v26, .int v28, .int v30, .int v32, .int v33, .long w34, .int v35, .int v37, .int v38, .int v39, .ref (ad 6), .ref (ad 7), .ref (ad 8), .ref (ad 9), .ref (ad 10), .ref (ad 11), .ref (ad 12), .ref (ad 13), .ref (ad 14), .ref (ad 15), .int v40, .int v42, .ref (ad 16), .int v44, .int v46, .int v48, .int v50, .int v51, .ref (ad 17), .ref (ad 18), .int v52, .ref (ad 19)]) := c53
  refine xget E hQ 0 (by decide) c53 rfl 17 (by decide) q1485 rfl dX12_tells_1 ?_
  refine lv_bipush (v := 40) hx hb dX12_tells_4 (by decide) ?_
  refine lv_iload_n hx hb dX12_tells_6 rfl (lv_at hl 1 rfl) ?_
  refine lv_iadd hx hb dX12_tells_7 ?_
  refine sb_at (P := fun z => W _ _ _ _ _ _ _ _ _ _ _ _ _ _ _ (F0 _ _ _ (.int z :: _))) (show (40 : Int32) + 8 = 48 by decide) ?_
  refine lv_iload_n hx hb dX12_tells_8 rfl (lv_at hl 2 rfl) ?_
  refine xiast E hs hQ 7 (by decide) c2 (vp_in_lit 48 50 (by decide)) dX12_tells_9 (fun H locs S54 eS54 hQ => ?_)
  have hI := invM_up_7 hI eS54 ⟨_, rfl, ⟨upd_mn b3.1 (by decide), upd_mn b3.2.1 (by decide), upd_mn b3.2.2.1 (by decide), upd_mn b3.2.2.2.1 (by decide), upd_mn b3.2.2.2.2.1 (by decide), upd_mn b3.2.2.2.2.2.1 (by decide), upd_m b3.2.2.2.2.2.2.1 ba2, upd_mn b3.2.2.2.2.2.2.2 (by decide)⟩⟩
  have b56 : (∀ j, j % 10 = 0 → Bd ((upd f1 (48 : Int32).toNatClampNeg a2) j) (0) (12)) ∧ (∀ j, j % 10 = 1 → Bd ((upd f1 (48 : Int32).toNatClampNeg a2) j) (0) (12)) ∧ (∀ j, j % 10 = 2 → Bd ((upd f1 (48 : Int32).toNatClampNeg a2) j) (0) (6)) ∧ (∀ j, j % 10 = 3 → Bd ((upd f1 (48 : Int32).toNatClampNeg a2) j) (0) (12)) ∧ (∀ j, j % 10 = 6 → Bd ((upd f1 (48 : Int32).toNatClampNeg a2) j) (0) (8)) ∧ (∀ j, j % 10 = 7 → Bd ((upd f1 (48 : Int32).toNatClampNeg a2) j) (0) (6)) ∧ (∀ j, j % 10 = 8 → Bd ((upd f1 (48 : Int32).toNatClampNeg a2) j) (0) (3)) ∧ (∀ j, j % 10 = 9 → Bd ((upd f1 (48 : Int32).toNatClampNeg a2) j) (0) (40)) := ⟨upd_mn b3.1 (by decide), upd_mn b3.2.1 (by decide), upd_mn b3.2.2.1 (by decide), upd_mn b3.2.2.2.1 (by decide), upd_mn b3.2.2.2.2.1 (by decide), upd_mn b3.2.2.2.2.2.1 (by decide), upd_m b3.2.2.2.2.2.2.1 ba2, upd_mn b3.2.2.2.2.2.2.2 (by decide)⟩
  have c55 : S54 7 = .inl (g.2 0, 50, .inl (upd f1 (48 : Int32).toNatClampNeg a2)) := up_at eS54 rfl
  have ef57 : EFp (S54 7) (S 7) 0 40 := ef_up ef7_0 c2 c55 (by decide)
  have q58 : elm (S54 7) 48 = a2.toInt := (elm_of c55 48).trans (congrArg Int32.toInt ((upd_s)))
  have q59 : elm (S 7) 40 = v7.toInt := (elm_of c2 40).trans (congrArg Int32.toInt (ee8))
  have q60 : elm (S54 7) 40 = v7.toInt := (elm_of c55 40).trans (congrArg Int32.toInt (((upd_o (by decide)).trans (ee8))))
  have q61 : elm (S 7) 41 = v10.toInt := (elm_of c2 41).trans (congrArg Int32.toInt (ee11))
  have q62 : elm (S54 7) 41 = v10.toInt := (elm_of c55 41).trans (congrArg Int32.toInt (((upd_o (by decide)).trans (ee11))))
  have q63 : elm (S 7) 43 = v13.toInt := (elm_of c2 43).trans (congrArg Int32.toInt (ee14))
  have q64 : elm (S54 7) 43 = v13.toInt := (elm_of c55 43).trans (congrArg Int32.toInt (((upd_o (by decide)).trans (ee14))))
  have q65 : elm (S 7) 46 = v16.toInt := (elm_of c2 46).trans (congrArg Int32.toInt (ee17))
  have q66 : elm (S54 7) 46 = v16.toInt := (elm_of c55 46).trans (congrArg Int32.toInt (((upd_o (by decide)).trans (ee17))))
  have q67 : elm (S 7) 47 = v19.toInt := (elm_of c2 47).trans (congrArg Int32.toInt (ee20))
  have q68 : elm (S54 7) 47 = v19.toInt := (elm_of c55 47).trans (congrArg Int32.toInt (((upd_o (by decide)).trans (ee20))))
  have q69 : elm (S 7) 49 = v22.toInt := (elm_of c2 49).trans (congrArg Int32.toInt (ee23))
  have q70 : elm (S54 7) 49 = v22.toInt := (elm_of c55 49).trans (congrArg Int32.toInt (((upd_o (by decide)).trans (ee23))))
  exact xrv E hr hlk hQ (⟨hI, (up_o o_refl eS54 (by decide)), ⟨by omega, by omega⟩, ⟨by omega, by omega⟩, ⟨by omega, by omega⟩, ⟨by omega, by omega⟩, ⟨by omega, by omega⟩, ⟨by omega, by omega⟩, ⟨by omega, by omega⟩, ef57⟩) dX12_tells_10
set_option maxHeartbeats 4000000 in
set_option maxRecDepth 100000 in
theorem gX12_tells_9 (l : Launch) (g : GG) (ad : Nat → Nat) (hD : Dj ad 20) (S : SS) (hI : InvM g ad S) (a2 : Int32) (ba2 : Bd a2 (0) (40)) : Met l yX12_tells (wG (.code yX12_tells cX12_tells 3 none)) (Rm 0) (XPre g ad 20 S [.ref (ad 0), .int 9, .int a2]) (va_Qv (fun S' => InvM g ad S' ∧ (∀ j, j ∉ ([7] : List Nat) → S' j = S j) ∧ (0 ≤ a2.toInt + (-1) * elm (S' 7) 49 ∧ 0 ≤ elm (S' 7) 49 + (-1) * a2.toInt) ∧ (0 ≤ elm (S 7) 40 + (-1) * elm (S' 7) 40 ∧ 0 ≤ elm (S' 7) 40 + (-1) * elm (S 7) 40) ∧ (0 ≤ elm (S 7) 41 + (-1) * elm (S' 7) 41 ∧ 0 ≤ elm (S' 7) 41 + (-1) * elm (S 7) 41) ∧ (0 ≤ elm (S 7) 43 + (-1) * elm (S' 7) 43 ∧ 0 ≤ elm (S' 7) 43 + (-1) * elm (S 7) 43) ∧ (0 ≤ elm (S 7) 46 + (-1) * elm (S' 7) 46 ∧ 0 ≤ elm (S' 7) 46 + (-1) * elm (S 7) 46) ∧ (0 ≤ elm (S 7) 47 + (-1) * elm (S' 7) 47 ∧ 0 ≤ elm (S' 7) 47 + (-1) * elm (S 7) 47) ∧ (0 ≤ elm (S 7) 48 + (-1) * elm (S' 7) 48 ∧ 0 ≤ elm (S' 7) 48 + (-1) * elm (S 7) 48) ∧ EFp (S' 7) (S 7) 0 40) (QB g ad 20) (FA ad 20)) 0 0 (FA ad 20) := by
  refine xmet cX12_tells "EbbWreckModel" (by decide) rfl (Nat.le_of_ble_eq_true rfl) (fun p e s m below meth c E hr hlk hml hQ ls hl => ?_)
  have hx := E.1
  have hb := E.2.1
  have hs : Sp ad 20 (FA ad 20) := Sp.fa hD
  have hl : lv_has ls 3 [(0, .ref (ad 0)), (1, .int 9), (2, .int a2)] := hl
  obtain ⟨f1, c2, b3⟩ := invM_7 hI
  obtain ⟨v4, ee5⟩ : ∃ z : Int32, f1 49 = z := ⟨_, rfl⟩
  have b6 : Bd v4 (0) (40) := (by rw [← ee5]; exact b3.2.2.2.2.2.2.2 49 (by decide))
  obtain ⟨v7, ee8⟩ : ∃ z : Int32, f1 40 = z := ⟨_, rfl⟩
  have b9 : Bd v7 (0) (12) := (by rw [← ee8]; exact b3.1 40 (by decide))
  obtain ⟨v10, ee11⟩ : ∃ z : Int32, f1 41 = z := ⟨_, rfl⟩
  have b12 : Bd v10 (0) (12) := (by rw [← ee11]; exact b3.2.1 41 (by decide))
  obtain ⟨v13, ee14⟩ : ∃ z : Int32, f1 43 = z := ⟨_, rfl⟩
  have b15 : Bd v13 (0) (12) := (by rw [← ee14]; exact b3.2.2.2.1 43 (by decide))
  obtain ⟨v16, ee17⟩ : ∃ z : Int32, f1 46 = z := ⟨_, rfl⟩
  have b18 : Bd v16 (0) (8) := (by rw [← ee17]; exact b3.2.2.2.2.1 46 (by decide))
  obtain ⟨v19, ee20⟩ : ∃ z : Int32, f1 47 = z := ⟨_, rfl⟩
  have b21 : Bd v19 (0) (6) := (by rw [← ee20]; exact b3.2.2.2.2.2.1 47 (by decide))
  obtain ⟨v22, ee23⟩ : ∃ z : Int32, f1 48 = z := ⟨_, rfl⟩
  have b24 : Bd v22 (0) (3) := (by rw [← ee23]; exact b3.2.2.2.2.2.2.1 48 (by decide))
  have ef7_0 : EFp (S 7) (S 7) 0 40 := fun _ _ _ => rfl
  refine lv_aload_n hx hb dX12_tells_0 rfl (lv_at hl 0 rfl) ?_
  obtain ⟨v25, v26, v28, v30, v32, v33, w34, v35, v37, v38, v39, v40, v42, v44, v46, v48, v50, v51, v52, c53, b27, b29, b31, b36, b41, b43, b45, b47, b49⟩ := invM_0 hI
  have c53 : S 0 = .inr (12, [.int v25, .ref (ad 1), .ref (ad 2), .ref (ad 3), .ref (ad 4), .ref (ad 5), .int v26, .int v28, .int v30, .int v32, .int v33, .long w34, .int v35, .int v37, .int v38, .int v39, .ref (ad 6), .ref (ad 7), .ref (ad 8), .ref (ad 9), .ref (ad 10), .ref (ad 11), .ref (ad 12), .ref (ad 13), .ref (ad 14), .ref (ad 15), .int v40, .int v42, .ref (ad 16), .int v44, .int v46, .int v48, .int v50, .int v51, .ref (ad 17), .ref (ad 18), .int v52, .ref (ad 19)]) := c53
  refine xget E hQ 0 (by decide) c53 rfl 17 (by decide) q1485 rfl dX12_tells_1 ?_
  refine lv_bipush (v := 40) hx hb dX12_tells_4 (by decide) ?_
  refine lv_iload_n hx hb dX12_tells_6 rfl (lv_at hl 1 rfl) ?_
  refine lv_iadd hx hb dX12_tells_7 ?_
  refine sb_at (P := fun z => W _ _ _ _ _ _ _ _ _ _ _ _ _ _ _ (F0 _ _ _ (.int z :: _))) (show (40 : Int32) + 9 = 49 by decide) ?_
  refine lv_iload_n hx hb dX12_tells_8 rfl (lv_at hl 2 rfl) ?_
  refine xiast E hs hQ 7 (by decide) c2 (vp_in_lit 49 50 (by decide)) dX12_tells_9 (fun H locs S54 eS54 hQ => ?_)
  have hI := invM_up_7 hI eS54 ⟨_, rfl, ⟨upd_mn b3.1 (by decide), upd_mn b3.2.1 (by decide), upd_mn b3.2.2.1 (by decide), upd_mn b3.2.2.2.1 (by decide), upd_mn b3.2.2.2.2.1 (by decide), upd_mn b3.2.2.2.2.2.1 (by decide), upd_mn b3.2.2.2.2.2.2.1 (by decide), upd_m b3.2.2.2.2.2.2.2 ba2⟩⟩
  have b56 : (∀ j, j % 10 = 0 → Bd ((upd f1 (49 : Int32).toNatClampNeg a2) j) (0) (12)) ∧ (∀ j, j % 10 = 1 → Bd ((upd f1 (49 : Int32).toNatClampNeg a2) j) (0) (12)) ∧ (∀ j, j % 10 = 2 → Bd ((upd f1 (49 : Int32).toNatClampNeg a2) j) (0) (6)) ∧ (∀ j, j % 10 = 3 → Bd ((upd f1 (49 : Int32).toNatClampNeg a2) j) (0) (12)) ∧ (∀ j, j % 10 = 6 → Bd ((upd f1 (49 : Int32).toNatClampNeg a2) j) (0) (8)) ∧ (∀ j, j % 10 = 7 → Bd ((upd f1 (49 : Int32).toNatClampNeg a2) j) (0) (6)) ∧ (∀ j, j % 10 = 8 → Bd ((upd f1 (49 : Int32).toNatClampNeg a2) j) (0) (3)) ∧ (∀ j, j % 10 = 9 → Bd ((upd f1 (49 : Int32).toNatClampNeg a2) j) (0) (40)) := ⟨upd_mn b3.1 (by decide), upd_mn b3.2.1 (by decide), upd_mn b3.2.2.1 (by decide), upd_mn b3.2.2.2.1 (by decide), upd_mn b3.2.2.2.2.1 (by decide), upd_mn b3.2.2.2.2.2.1 (by decide), upd_mn b3.2.2.2.2.2.2.1 (by decide), upd_m b3.2.2.2.2.2.2.2 ba2⟩
  have c55 : S54 7 = .inl (g.2 0, 50, .inl (upd f1 (49 : Int32).toNatClampNeg a2)) := up_at eS54 rfl
  have ef57 : EFp (S54 7) (S 7) 0 40 := ef_up ef7_0 c2 c55 (by decide)
  have q58 : elm (S54 7) 49 = a2.toInt := (elm_of c55 49).trans (congrArg Int32.toInt ((upd_s)))
  have q59 : elm (S 7) 40 = v7.toInt := (elm_of c2 40).trans (congrArg Int32.toInt (ee8))
  have q60 : elm (S54 7) 40 = v7.toInt := (elm_of c55 40).trans (congrArg Int32.toInt (((upd_o (by decide)).trans (ee8))))
  have q61 : elm (S 7) 41 = v10.toInt := (elm_of c2 41).trans (congrArg Int32.toInt (ee11))
  have q62 : elm (S54 7) 41 = v10.toInt := (elm_of c55 41).trans (congrArg Int32.toInt (((upd_o (by decide)).trans (ee11))))
  have q63 : elm (S 7) 43 = v13.toInt := (elm_of c2 43).trans (congrArg Int32.toInt (ee14))
  have q64 : elm (S54 7) 43 = v13.toInt := (elm_of c55 43).trans (congrArg Int32.toInt (((upd_o (by decide)).trans (ee14))))
  have q65 : elm (S 7) 46 = v16.toInt := (elm_of c2 46).trans (congrArg Int32.toInt (ee17))
  have q66 : elm (S54 7) 46 = v16.toInt := (elm_of c55 46).trans (congrArg Int32.toInt (((upd_o (by decide)).trans (ee17))))
  have q67 : elm (S 7) 47 = v19.toInt := (elm_of c2 47).trans (congrArg Int32.toInt (ee20))
  have q68 : elm (S54 7) 47 = v19.toInt := (elm_of c55 47).trans (congrArg Int32.toInt (((upd_o (by decide)).trans (ee20))))
  have q69 : elm (S 7) 48 = v22.toInt := (elm_of c2 48).trans (congrArg Int32.toInt (ee23))
  have q70 : elm (S54 7) 48 = v22.toInt := (elm_of c55 48).trans (congrArg Int32.toInt (((upd_o (by decide)).trans (ee23))))
  exact xrv E hr hlk hQ (⟨hI, (up_o o_refl eS54 (by decide)), ⟨by omega, by omega⟩, ⟨by omega, by omega⟩, ⟨by omega, by omega⟩, ⟨by omega, by omega⟩, ⟨by omega, by omega⟩, ⟨by omega, by omega⟩, ⟨by omega, by omega⟩, ef57⟩) dX12_tells_10
set_option maxHeartbeats 4000000 in
set_option maxRecDepth 100000 in
theorem gX12_cellHere_0 (l : Launch) (g : GG) (ad : Nat → Nat) (hD : Dj ad 20) (S : SS) (hI : InvM g ad S) (hq1 : 0 ≤ fld (S 0) 6 + (-1) * fld (S 0) 7) (hq2 : 0 ≤ elm (S 7) 40 + (-1)) : Met l yX12_cellHere (wG (.code yX12_cellHere cX12_cellHere 1 (some .int))) (Rm 3) (XPre g ad 20 S [.ref (ad 0)]) (va_Qi (fun r S' => InvM g ad S' ∧ (∀ j, j ∉ ([0] : List Nat) → S' j = S j) ∧ Bd r (0) (11) ∧ (0 ≤ fld (S' 0) 6 + (-1) * fld (S' 0) 7) ∧ (0 ≤ fld (S 0) 6 + (-1) * fld (S' 0) 6 ∧ 0 ≤ fld (S' 0) 6 + (-1) * fld (S 0) 6) ∧ (0 ≤ 4 * fld (S 0) 6 + (-4) * fld (S 0) 7 + fld (S 0) 8 + (-4) * fld (S' 0) 6 + 4 * fld (S' 0) 7 + (-1) * fld (S' 0) 8) ∧ (0 ≤ elm (S' 7) 40 + (-1) * r.toInt + (-1))) (QB g ad 20) (FA ad 20)) 0 0 (FA ad 20) := by
  refine xmet cX12_cellHere "EbbWreckModel" (by decide) rfl (Nat.le_of_ble_eq_true rfl) (fun p e s m below meth c E hr hlk hml hQ ls hl => ?_)
  have hx := E.1
  have hb := E.2.1
  have hs : Sp ad 20 (FA ad 20) := Sp.fa hD
  have hl : lv_has ls 1 [(0, .ref (ad 0))] := hl
  obtain ⟨v1, v2, v4, v6, v8, v9, w10, v11, v13, v14, v15, v16, v18, v20, v22, v24, v26, v27, v28, c29, b3, b5, b7, b12, b17, b19, b21, b23, b25⟩ := invM_0 hI
  have c29 : S 0 = .inr (12, [.int v1, .ref (ad 1), .ref (ad 2), .ref (ad 3), .ref (ad 4), .ref (ad 5), .int v2, .int v4, .int v6, .int v8, .int v9, .long w10, .int v11, .int v13, .int v14, .int v15, .ref (ad 6), .ref (ad 7), .ref (ad 8), .ref (ad 9), .ref (ad 10), .ref (ad 11), .ref (ad 12), .ref (ad 13), .ref (ad 14), .ref (ad 15), .int v16, .int v18, .ref (ad 16), .int v20, .int v22, .int v24, .int v26, .int v27, .ref (ad 17), .ref (ad 18), .int v28, .ref (ad 19)]) := c29
  obtain ⟨f30, c31, b32⟩ := invM_7 hI
  obtain ⟨v33, ee34⟩ : ∃ z : Int32, f30 40 = z := ⟨_, rfl⟩
  have b35 : Bd v33 (0) (12) := (by rw [← ee34]; exact b32.1 40 (by decide))
  have q36 : fld (S 0) 6 = v2.toInt := fld_of c29 rfl
  have q37 : fld (S 0) 7 = v4.toInt := fld_of c29 rfl
  have q38 : elm (S 7) 40 = v33.toInt := (elm_of c31 40).trans (congrArg Int32.toInt (ee34))
  have b39 : Bd v33 (1) (12) := ⟨by omega, (b35).2⟩
  refine lv_aload_n hx hb dX12_cellHere_0 rfl (lv_at hl 0 rfl) ?_
  refine lv_iconst (v := 0) hx hb dX12_cellHere_1 (by decide) ?_
  refine lv_aload_n hx hb dX12_cellHere_2 rfl (lv_at hl 0 rfl) ?_
  refine lv_iconst (v := 0) hx hb dX12_cellHere_3 (by decide) ?_
  refine xcVi E hs hQ hml hl.1 0 (gX12_hasRead_0 l g ad hD S hI ) mX12_hasRead q1697 (by decide) c29 rfl rfl ⟨(Nat.le_of_ble_eq_true rfl), (Nat.le_of_ble_eq_true rfl)⟩ ⟨(Nat.le_of_ble_eq_true rfl), (Nat.le_of_ble_eq_true rfl)⟩ (Nat.le_of_ble_eq_true rfl) rfl dX12_cellHere_4 (fun r40 S40 H locs hp40 hQ _ => ?_)
  obtain ⟨rfl, b40, g40_0⟩ := hp40
  have b41 : Bd r40 (1) (12) := ⟨by omega, (b40).2⟩
  refine lv_iconst (v := 1) hx hb dX12_cellHere_7 (by decide) ?_
  refine lv_isub hx hb dX12_cellHere_8 ?_
  refine lv_topi (fun z42 e43 => ?_)
  have t44 := ib_sub e43 b41 (by decide : Bd 1 (1) (1)) (by decide) (by decide)
  have b45 : Bd z42 (0) (11) := ib_subb t44 b41 (by decide : Bd 1 (1) (1))
  have t44 : z42.toInt = r40.toInt - 1 := fold_sub t44 rfl (by decide)
  refine xcVi E hs hQ hml hl.1 0 (gX12_number_8 l g ad hD S hI 0 z42 (by decide : Bd 0 (0) (0)) (ib_wk b45 (by decide) (by decide)) (by omega) (by omega)) mX12_number q1676 (by decide) c29 rfl rfl ⟨(Nat.le_of_ble_eq_true rfl), (Nat.le_of_ble_eq_true rfl)⟩ ⟨(Nat.le_of_ble_eq_true rfl), (Nat.le_of_ble_eq_true rfl)⟩ (Nat.le_of_ble_eq_true rfl) rfl dX12_cellHere_9 (fun r46 S46 H locs hp46 hQ _ => ?_)
  obtain ⟨hI, o46, b46, g46_0, g46_1, g46_2, g46_3⟩ := hp46
  obtain ⟨v47, v48, v50, v52, v54, v55, w56, v57, v59, v60, v61, v62, v64, v66, v68, v70, v72, v73, v74, c75, b49, b51, b53, b58, b63, b65, b67, b69, b71⟩ := invM_0 hI
  have c75 : S46 0 = .inr (12, [.int v47, .ref (ad 1), .ref (ad 2), .ref (ad 3), .ref (ad 4), .ref (ad 5), .int v48, .int v50, .int v52, .int v54, .int v55, .long w56, .int v57, .int v59, .int v60, .int v61, .ref (ad 6), .ref (ad 7), .ref (ad 8), .ref (ad 9), .ref (ad 10), .ref (ad 11), .ref (ad 12), .ref (ad 13), .ref (ad 14), .ref (ad 15), .int v62, .int v64, .ref (ad 16), .int v66, .int v68, .int v70, .int v72, .int v73, .ref (ad 17), .ref (ad 18), .int v74, .ref (ad 19)]) := c75
  have q76 : fld (S46 0) 6 = v48.toInt := fld_of c75 rfl
  have q77 : fld (S46 0) 7 = v50.toInt := fld_of c75 rfl
  have q78 : fld (S 0) 8 = v6.toInt := fld_of c29 rfl
  have q79 : fld (S46 0) 8 = v52.toInt := fld_of c75 rfl
  have c80 : S46 7 = .inl (g.2 0, 50, .inl f30) := ((o46 7 (by decide)).trans c31)
  have q81 : elm (S46 7) 40 = v33.toInt := (elm_of c80 40).trans (congrArg Int32.toInt (ee34))
  exact xri E hr hlk hQ (⟨hI, (o_trans o_refl o46 (by decide)), b46, (by omega), ⟨by omega, by omega⟩, (by omega), (by omega)⟩) dX12_cellHere_12
set_option maxHeartbeats 4000000 in
set_option maxRecDepth 100000 in
theorem gX12_stepsHere_0 (l : Launch) (g : GG) (ad : Nat → Nat) (hD : Dj ad 20) (S : SS) (hI : InvM g ad S) (hq1 : 0 ≤ fld (S 0) 6 + (-1) * fld (S 0) 7) : Met l yX12_stepsHere (wG (.code yX12_stepsHere cX12_stepsHere 3 (some .int))) (Rm 3) (XPre g ad 20 S [.ref (ad 0)]) (va_Qi (fun r S' => InvM g ad S' ∧ (∀ j, j ∉ ([0] : List Nat) → S' j = S j) ∧ Bd r (-3) (3) ∧ (0 ≤ fld (S' 0) 6 + (-1) * fld (S' 0) 7) ∧ (0 ≤ fld (S 0) 6 + (-1) * fld (S' 0) 6 ∧ 0 ≤ fld (S' 0) 6 + (-1) * fld (S 0) 6) ∧ (0 ≤ 4 * fld (S 0) 6 + (-4) * fld (S 0) 7 + fld (S 0) 8 + (-4) * fld (S' 0) 6 + 4 * fld (S' 0) 7 + (-1) * fld (S' 0) 8)) (QB g ad 20) (FA ad 20)) 0 0 (FA ad 20) := by
  refine xmet cX12_stepsHere "EbbWreckModel" (by decide) rfl (Nat.le_of_ble_eq_true rfl) (fun p e s m below meth c E hr hlk hml hQ ls hl => ?_)
  have hx := E.1
  have hb := E.2.1
  have hs : Sp ad 20 (FA ad 20) := Sp.fa hD
  have hl : lv_has ls 3 [(0, .ref (ad 0))] := hl
  obtain ⟨v1, v2, v4, v6, v8, v9, w10, v11, v13, v14, v15, v16, v18, v20, v22, v24, v26, v27, v28, c29, b3, b5, b7, b12, b17, b19, b21, b23, b25⟩ := invM_0 hI
  have c29 : S 0 = .inr (12, [.int v1, .ref (ad 1), .ref (ad 2), .ref (ad 3), .ref (ad 4), .ref (ad 5), .int v2, .int v4, .int v6, .int v8, .int v9, .long w10, .int v11, .int v13, .int v14, .int v15, .ref (ad 6), .ref (ad 7), .ref (ad 8), .ref (ad 9), .ref (ad 10), .ref (ad 11), .ref (ad 12), .ref (ad 13), .ref (ad 14), .ref (ad 15), .int v16, .int v18, .ref (ad 16), .int v20, .int v22, .int v24, .int v26, .int v27, .ref (ad 17), .ref (ad 18), .int v28, .ref (ad 19)]) := c29
  have q30 : fld (S 0) 6 = v2.toInt := fld_of c29 rfl
  have q31 : fld (S 0) 7 = v4.toInt := fld_of c29 rfl
  refine lv_aload_n hx hb dX12_stepsHere_0 rfl (lv_at hl 0 rfl) ?_
  refine xget E hQ 0 (by decide) c29 rfl 12 (by decide) q1480 rfl dX12_stepsHere_1 ?_
  refine lv_if_ne (tgt := 21) hx hb dX12_stepsHere_4 (by decide) (fun k32 => ?_) (fun k32 => ?_)
  · have h33 := ib_ne k32
    have b34 : Bd v11 (1) (3) := rf_nlo b12 (by decide : Bd 0 (0) (0)) h33
    refine lv_iconst (v := 0) hx hb dX12_stepsHere_21 (by decide) ?_
    refine lv_istore_n (lv' := [(1, .int 0), (0, .ref (ad 0))]) hx hb dX12_stepsHere_22 rfl hl (by decide) rfl (fun ls hl => ?_)
    refine lv_aload_n hx hb dX12_stepsHere_23 rfl (lv_at hl 1 rfl) ?_
    refine lv_iconst (v := 0) hx hb dX12_stepsHere_24 (by decide) ?_
    refine lv_iconst (v := 3) hx hb dX12_stepsHere_25 (by decide) ?_
    refine xcVi E hs hQ hml hl.1 0 (gX12_number_4 l g ad hD S hI 0 3 (by decide : Bd 0 (0) (0)) (by decide : Bd 3 (3) (3)) (by omega)) mX12_number q1676 (by decide) c29 rfl rfl ⟨(Nat.le_of_ble_eq_true rfl), (Nat.le_of_ble_eq_true rfl)⟩ ⟨(Nat.le_of_ble_eq_true rfl), (Nat.le_of_ble_eq_true rfl)⟩ (Nat.le_of_ble_eq_true rfl) rfl dX12_stepsHere_26 (fun r35 S35 H locs hp35 hQ _ => ?_)
    obtain ⟨hI, o35, b35, g35_0, g35_1, g35_2⟩ := hp35
    obtain ⟨v36, v37, v39, v41, v43, v44, w45, v46, v48, v49, v50, v51, v53, v55, v57, v59, v61, v62, v63, c64, b38, b40, b42, b47, b52, b54, b56, b58, b60⟩ := invM_0 hI
    have c64 : S35 0 = .inr (12, [.int v36, .ref (ad 1), .ref (ad 2), .ref (ad 3), .ref (ad 4), .ref (ad 5), .int v37, .int v39, .int v41, .int v43, .int v44, .long w45, .int v46, .int v48, .int v49, .int v50, .ref (ad 6), .ref (ad 7), .ref (ad 8), .ref (ad 9), .ref (ad 10), .ref (ad 11), .ref (ad 12), .ref (ad 13), .ref (ad 14), .ref (ad 15), .int v51, .int v53, .ref (ad 16), .int v55, .int v57, .int v59, .int v61, .int v62, .ref (ad 17), .ref (ad 18), .int v63, .ref (ad 19)]) := c64
    have q65 : fld (S35 0) 6 = v37.toInt := fld_of c64 rfl
    have q66 : fld (S35 0) 7 = v39.toInt := fld_of c64 rfl
    have q67 : fld (S 0) 8 = v6.toInt := fld_of c29 rfl
    have q68 : fld (S35 0) 8 = v41.toInt := fld_of c64 rfl
    refine lv_istore_n (lv' := [(2, .int r35), (1, .int 0), (0, .ref (ad 0))]) hx hb dX12_stepsHere_29 rfl hl (by decide) rfl (fun ls hl => ?_)
    refine lv_iload_n hx hb dX12_stepsHere_30 rfl (lv_at hl 1 rfl) ?_
    refine lv_if_eq (tgt := 39) hx hb dX12_stepsHere_31 (by decide) (fun k69 => ?_) (fun k69 => ?_)
    · have h70 := ib_eq k69
      refine lv_iload_n hx hb dX12_stepsHere_39 rfl (lv_at hl 0 rfl) ?_
      exact xri E hr hlk hQ (⟨hI, (o_trans o_refl o35 (by decide)), (ib_wk b35 (by decide) (by decide)), (by omega), ⟨by omega, by omega⟩, (by omega)⟩) dX12_stepsHere_40
    · have h71 := ib_ne k69
      exact absurd h71 (by decide)
  · have h72 := ib_eq k32
    have b73 : Bd v11 (0) (0) := ⟨(b12).1, ((rf_eq b12 (by decide : Bd 0 (0) (0)) h72).1).2⟩
    refine lv_aload_n hx hb dX12_stepsHere_7 rfl (lv_at hl 0 rfl) ?_
    refine lv_ldc2 (v := 40187) hx hb E.2.2.1 (E.2.2.2.1 _ q1705) dX12_stepsHere_8 ?_
    refine xcVi E hs hQ hml hl.1 0 (gX12_takes_0 l g ad hD S hI 40187 (by omega)) mX12_takes q1659 (by decide) c29 rfl rfl ⟨(Nat.le_of_ble_eq_true rfl), (Nat.le_of_ble_eq_true rfl)⟩ ⟨(Nat.le_of_ble_eq_true rfl), (Nat.le_of_ble_eq_true rfl)⟩ (Nat.le_of_ble_eq_true rfl) rfl dX12_stepsHere_11 (fun r74 S74 H locs hp74 hQ _ => ?_)
    obtain ⟨hI, o74, b74, g74_0, g74_1, g74_2, g74_3, g74_4⟩ := hp74
    obtain ⟨v75, v76, v78, v80, v82, v83, w84, v85, v87, v88, v89, v90, v92, v94, v96, v98, v100, v101, v102, c103, b77, b79, b81, b86, b91, b93, b95, b97, b99⟩ := invM_0 hI
    have c103 : S74 0 = .inr (12, [.int v75, .ref (ad 1), .ref (ad 2), .ref (ad 3), .ref (ad 4), .ref (ad 5), .int v76, .int v78, .int v80, .int v82, .int v83, .long w84, .int v85, .int v87, .int v88, .int v89, .ref (ad 6), .ref (ad 7), .ref (ad 8), .ref (ad 9), .ref (ad 10), .ref (ad 11), .ref (ad 12), .ref (ad 13), .ref (ad 14), .ref (ad 15), .int v90, .int v92, .ref (ad 16), .int v94, .int v96, .int v98, .int v100, .int v101, .ref (ad 17), .ref (ad 18), .int v102, .ref (ad 19)]) := c103
    have q104 : fld (S74 0) 6 = v76.toInt := fld_of c103 rfl
    have q105 : fld (S74 0) 7 = v78.toInt := fld_of c103 rfl
    have q106 : fld (S 0) 8 = v6.toInt := fld_of c29 rfl
    have q107 : fld (S74 0) 8 = v80.toInt := fld_of c103 rfl
    have q108 : fld (S 0) 12 = v11.toInt := fld_of c29 rfl
    have q109 : fld (S74 0) 12 = v85.toInt := fld_of c103 rfl
    have b110 : Bd v85 (0) (0) := ⟨(b86).1, by omega⟩
    refine lv_if_eq (tgt := 21) hx hb dX12_stepsHere_14 (by decide) (fun k111 => ?_) (fun k111 => ?_)
    · have h112 := ib_eq k111
      have b113 : Bd r74 (0) (0) := ⟨(b74).1, ((rf_eq b74 (by decide : Bd 0 (0) (0)) h112).1).2⟩
      clear g74_4
      refine lv_iconst (v := 0) hx hb dX12_stepsHere_21 (by decide) ?_
      refine lv_istore_n (lv' := [(1, .int 0), (0, .ref (ad 0))]) hx hb dX12_stepsHere_22 rfl hl (by decide) rfl (fun ls hl => ?_)
      refine lv_aload_n hx hb dX12_stepsHere_23 rfl (lv_at hl 1 rfl) ?_
      refine lv_iconst (v := 0) hx hb dX12_stepsHere_24 (by decide) ?_
      refine lv_iconst (v := 3) hx hb dX12_stepsHere_25 (by decide) ?_
      refine xcVi E hs hQ hml hl.1 0 (gX12_number_4 l g ad hD S74 hI 0 3 (by decide : Bd 0 (0) (0)) (by decide : Bd 3 (3) (3)) (by omega)) mX12_number q1676 (by decide) c103 rfl rfl ⟨(Nat.le_of_ble_eq_true rfl), (Nat.le_of_ble_eq_true rfl)⟩ ⟨(Nat.le_of_ble_eq_true rfl), (Nat.le_of_ble_eq_true rfl)⟩ (Nat.le_of_ble_eq_true rfl) rfl dX12_stepsHere_26 (fun r114 S114 H locs hp114 hQ _ => ?_)
      obtain ⟨hI, o114, b114, g114_0, g114_1, g114_2⟩ := hp114
      obtain ⟨v115, v116, v118, v120, v122, v123, w124, v125, v127, v128, v129, v130, v132, v134, v136, v138, v140, v141, v142, c143, b117, b119, b121, b126, b131, b133, b135, b137, b139⟩ := invM_0 hI
      have c143 : S114 0 = .inr (12, [.int v115, .ref (ad 1), .ref (ad 2), .ref (ad 3), .ref (ad 4), .ref (ad 5), .int v116, .int v118, .int v120, .int v122, .int v123, .long w124, .int v125, .int v127, .int v128, .int v129, .ref (ad 6), .ref (ad 7), .ref (ad 8), .ref (ad 9), .ref (ad 10), .ref (ad 11), .ref (ad 12), .ref (ad 13), .ref (ad 14), .ref (ad 15), .int v130, .int v132, .ref (ad 16), .int v134, .int v136, .int v138, .int v140, .int v141, .ref (ad 17), .ref (ad 18), .int v142, .ref (ad 19)]) := c143
      have q144 : fld (S114 0) 6 = v116.toInt := fld_of c143 rfl
      have q145 : fld (S114 0) 7 = v118.toInt := fld_of c143 rfl
      have q146 : fld (S114 0) 8 = v120.toInt := fld_of c143 rfl
      refine lv_istore_n (lv' := [(2, .int r114), (1, .int 0), (0, .ref (ad 0))]) hx hb dX12_stepsHere_29 rfl hl (by decide) rfl (fun ls hl => ?_)
      refine lv_iload_n hx hb dX12_stepsHere_30 rfl (lv_at hl 1 rfl) ?_
      refine lv_if_eq (tgt := 39) hx hb dX12_stepsHere_31 (by decide) (fun k147 => ?_) (fun k147 => ?_)
      · have h148 := ib_eq k147
        refine lv_iload_n hx hb dX12_stepsHere_39 rfl (lv_at hl 0 rfl) ?_
        exact xri E hr hlk hQ (⟨hI, (o_trans (o_trans o_refl o74 (by decide)) o114 (by decide)), (ib_wk b114 (by decide) (by decide)), (by omega), ⟨by omega, by omega⟩, (by omega)⟩) dX12_stepsHere_40
      · have h149 := ib_ne k147
        exact absurd h149 (by decide)
    · have h150 := ib_ne k111
      have b151 : Bd r74 (1) (1) := rf_nlo b74 (by decide : Bd 0 (0) (0)) h150
      have g152 := g74_4.resolve_left (by omega)
      clear g74_4
      refine lv_iconst (v := 1) hx hb dX12_stepsHere_17 (by decide) ?_
      refine lv_goto (tgt := 22) hx hb dX12_stepsHere_18 (by decide) ?_
      refine lv_istore_n (lv' := [(1, .int 1), (0, .ref (ad 0))]) hx hb dX12_stepsHere_22 rfl hl (by decide) rfl (fun ls hl => ?_)
      refine lv_aload_n hx hb dX12_stepsHere_23 rfl (lv_at hl 1 rfl) ?_
      refine lv_iconst (v := 0) hx hb dX12_stepsHere_24 (by decide) ?_
      refine lv_iconst (v := 3) hx hb dX12_stepsHere_25 (by decide) ?_
      refine xcVi E hs hQ hml hl.1 0 (gX12_number_4 l g ad hD S74 hI 0 3 (by decide : Bd 0 (0) (0)) (by decide : Bd 3 (3) (3)) (by omega)) mX12_number q1676 (by decide) c103 rfl rfl ⟨(Nat.le_of_ble_eq_true rfl), (Nat.le_of_ble_eq_true rfl)⟩ ⟨(Nat.le_of_ble_eq_true rfl), (Nat.le_of_ble_eq_true rfl)⟩ (Nat.le_of_ble_eq_true rfl) rfl dX12_stepsHere_26 (fun r153 S153 H locs hp153 hQ _ => ?_)
      obtain ⟨hI, o153, b153, g153_0, g153_1, g153_2⟩ := hp153
      obtain ⟨v154, v155, v157, v159, v161, v162, w163, v164, v166, v167, v168, v169, v171, v173, v175, v177, v179, v180, v181, c182, b156, b158, b160, b165, b170, b172, b174, b176, b178⟩ := invM_0 hI
      have c182 : S153 0 = .inr (12, [.int v154, .ref (ad 1), .ref (ad 2), .ref (ad 3), .ref (ad 4), .ref (ad 5), .int v155, .int v157, .int v159, .int v161, .int v162, .long w163, .int v164, .int v166, .int v167, .int v168, .ref (ad 6), .ref (ad 7), .ref (ad 8), .ref (ad 9), .ref (ad 10), .ref (ad 11), .ref (ad 12), .ref (ad 13), .ref (ad 14), .ref (ad 15), .int v169, .int v171, .ref (ad 16), .int v173, .int v175, .int v177, .int v179, .int v180, .ref (ad 17), .ref (ad 18), .int v181, .ref (ad 19)]) := c182
      have q183 : fld (S153 0) 6 = v155.toInt := fld_of c182 rfl
      have q184 : fld (S153 0) 7 = v157.toInt := fld_of c182 rfl
      have q185 : fld (S153 0) 8 = v159.toInt := fld_of c182 rfl
      refine lv_istore_n (lv' := [(2, .int r153), (1, .int 1), (0, .ref (ad 0))]) hx hb dX12_stepsHere_29 rfl hl (by decide) rfl (fun ls hl => ?_)
      refine lv_iload_n hx hb dX12_stepsHere_30 rfl (lv_at hl 1 rfl) ?_
      refine lv_if_eq (tgt := 39) hx hb dX12_stepsHere_31 (by decide) (fun k186 => ?_) (fun k186 => ?_)
      · have h187 := ib_eq k186
        exact absurd h187 (by decide)
      · have h188 := ib_ne k186
        refine lv_iload_n hx hb dX12_stepsHere_34 rfl (lv_at hl 0 rfl) ?_
        refine lv_ineg hx hb dX12_stepsHere_35 ?_
        refine lv_topi (fun z189 e190 => ?_)
        have t191 := ib_neg e190 b153 (by decide)
        have b192 : Bd z189 (-3) (0) := ib_negb t191 b153
        refine lv_goto (tgt := 40) hx hb dX12_stepsHere_36 (by decide) ?_
        exact xri E hr hlk hQ (⟨hI, (o_trans (o_trans o_refl o74 (by decide)) o153 (by decide)), (ib_wk b192 (by decide) (by decide)), (by omega), ⟨by omega, by omega⟩, (by omega)⟩) dX12_stepsHere_40
set_option maxHeartbeats 4000000 in
set_option maxRecDepth 100000 in
theorem gX12_currentLine_0 (l : Launch) (g : GG) (ad : Nat → Nat) (hD : Dj ad 20) (S : SS) (hI : InvM g ad S) (hq1 : 0 ≤ fld (S 0) 6 + (-1) * fld (S 0) 7) (hq2 : 0 ≤ elm (S 7) 40 + (-1)) : Met l yX12_currentLine (wG (.code yX12_currentLine cX12_currentLine 4 none)) (Rm 4) (XPre g ad 20 S [.ref (ad 0)]) (va_Qv (fun S' => InvM g ad S' ∧ (∀ j, j ∉ ([0, 8] : List Nat) → S' j = S j) ∧ (0 ≤ fld (S' 0) 6 + (-1) * fld (S' 0) 7) ∧ (0 ≤ fld (S 0) 6 + (-1) * fld (S' 0) 6 ∧ 0 ≤ fld (S' 0) 6 + (-1) * fld (S 0) 6) ∧ (0 ≤ 4 * fld (S 0) 6 + (-4) * fld (S 0) 7 + fld (S 0) 8 + (-4) * fld (S' 0) 6 + 4 * fld (S' 0) 7 + (-1) * fld (S' 0) 8)) (QB g ad 20) (FA ad 20)) 0 0 (FA ad 20) := by
  refine xmet cX12_currentLine "EbbWreckModel" (by decide) rfl (Nat.le_of_ble_eq_true rfl) (fun p e s m below meth c E hr hlk hml hQ ls hl => ?_)
  have hx := E.1
  have hb := E.2.1
  have hs : Sp ad 20 (FA ad 20) := Sp.fa hD
  have hl : lv_has ls 4 [(0, .ref (ad 0))] := hl
  obtain ⟨v1, v2, v4, v6, v8, v9, w10, v11, v13, v14, v15, v16, v18, v20, v22, v24, v26, v27, v28, c29, b3, b5, b7, b12, b17, b19, b21, b23, b25⟩ := invM_0 hI
  have c29 : S 0 = .inr (12, [.int v1, .ref (ad 1), .ref (ad 2), .ref (ad 3), .ref (ad 4), .ref (ad 5), .int v2, .int v4, .int v6, .int v8, .int v9, .long w10, .int v11, .int v13, .int v14, .int v15, .ref (ad 6), .ref (ad 7), .ref (ad 8), .ref (ad 9), .ref (ad 10), .ref (ad 11), .ref (ad 12), .ref (ad 13), .ref (ad 14), .ref (ad 15), .int v16, .int v18, .ref (ad 16), .int v20, .int v22, .int v24, .int v26, .int v27, .ref (ad 17), .ref (ad 18), .int v28, .ref (ad 19)]) := c29
  obtain ⟨f30, c31, b32⟩ := invM_7 hI
  obtain ⟨v33, ee34⟩ : ∃ z : Int32, f30 40 = z := ⟨_, rfl⟩
  have b35 : Bd v33 (0) (12) := (by rw [← ee34]; exact b32.1 40 (by decide))
  have q36 : fld (S 0) 6 = v2.toInt := fld_of c29 rfl
  have q37 : fld (S 0) 7 = v4.toInt := fld_of c29 rfl
  have q38 : elm (S 7) 40 = v33.toInt := (elm_of c31 40).trans (congrArg Int32.toInt (ee34))
  have b39 : Bd v33 (1) (12) := ⟨by omega, (b35).2⟩
  refine lv_aload_n hx hb dX12_currentLine_0 rfl (lv_at hl 0 rfl) ?_
  refine xcVi E hs hQ hml hl.1 0 (gX12_cellHere_0 l g ad hD S hI (by omega) (by omega)) mX12_cellHere q1693 (by decide) c29 rfl rfl ⟨(Nat.le_of_ble_eq_true rfl), (Nat.le_of_ble_eq_true rfl)⟩ ⟨(Nat.le_of_ble_eq_true rfl), (Nat.le_of_ble_eq_true rfl)⟩ (Nat.le_of_ble_eq_true rfl) rfl dX12_currentLine_1 (fun r40 S40 H locs hp40 hQ _ => ?_)
  obtain ⟨hI, o40, b40, g40_0, g40_1, g40_2, g40_3⟩ := hp40
  obtain ⟨v41, v42, v44, v46, v48, v49, w50, v51, v53, v54, v55, v56, v58, v60, v62, v64, v66, v67, v68, c69, b43, b45, b47, b52, b57, b59, b61, b63, b65⟩ := invM_0 hI
  have c69 : S40 0 = .inr (12, [.int v41, .ref (ad 1), .ref (ad 2), .ref (ad 3), .ref (ad 4), .ref (ad 5), .int v42, .int v44, .int v46, .int v48, .int v49, .long w50, .int v51, .int v53, .int v54, .int v55, .ref (ad 6), .ref (ad 7), .ref (ad 8), .ref (ad 9), .ref (ad 10), .ref (ad 11), .ref (ad 12), .ref (ad 13), .ref (ad 14), .ref (ad 15), .int v56, .int v58, .ref (ad 16), .int v60, .int v62, .int v64, .int v66, .int v67, .ref (ad 17), .ref (ad 18), .int v68, .ref (ad 19)]) := c69
  have q70 : fld (S40 0) 6 = v42.toInt := fld_of c69 rfl
  have q71 : fld (S40 0) 7 = v44.toInt := fld_of c69 rfl
  have q72 : fld (S 0) 8 = v6.toInt := fld_of c29 rfl
  have q73 : fld (S40 0) 8 = v46.toInt := fld_of c69 rfl
  have c74 : S40 7 = .inl (g.2 0, 50, .inl f30) := ((o40 7 (by decide)).trans c31)
  have q75 : elm (S40 7) 40 = v33.toInt := (elm_of c74 40).trans (congrArg Int32.toInt (ee34))
  refine lv_istore_n (lv' := [(1, .int r40), (0, .ref (ad 0))]) hx hb dX12_currentLine_4 rfl hl (by decide) rfl (fun ls hl => ?_)
  refine lv_aload_n hx hb dX12_currentLine_5 rfl (lv_at hl 1 rfl) ?_
  refine lv_ldc2 (v := 3436186) hx hb E.2.2.1 (E.2.2.2.1 _ q1680) dX12_currentLine_6 ?_
  refine xcVv E hs hQ hml hl.1 0 (gX12_asks_0 l g ad hD S40 hI 3436186 (by omega)) mX12_asks q1655 (by decide) c69 rfl rfl ⟨(Nat.le_of_ble_eq_true rfl), (Nat.le_of_ble_eq_true rfl)⟩ ⟨(Nat.le_of_ble_eq_true rfl), (Nat.le_of_ble_eq_true rfl)⟩ (Nat.le_of_ble_eq_true rfl) rfl dX12_currentLine_9 (fun S76 H locs hp76 hQ _ => ?_)
  obtain ⟨hI, o76, g76_0, g76_1, g76_2⟩ := hp76
  obtain ⟨v77, v78, v80, v82, v84, v85, w86, v87, v89, v90, v91, v92, v94, v96, v98, v100, v102, v103, v104, c105, b79, b81, b83, b88, b93, b95, b97, b99, b101⟩ := invM_0 hI
  have c105 : S76 0 = .inr (12, [.int v77, .ref (ad 1), .ref (ad 2), .ref (ad 3), .ref (ad 4), .ref (ad 5), .int v78, .int v80, .int v82, .int v84, .int v85, .long w86, .int v87, .int v89, .int v90, .int v91, .ref (ad 6), .ref (ad 7), .ref (ad 8), .ref (ad 9), .ref (ad 10), .ref (ad 11), .ref (ad 12), .ref (ad 13), .ref (ad 14), .ref (ad 15), .int v92, .int v94, .ref (ad 16), .int v96, .int v98, .int v100, .int v102, .int v103, .ref (ad 17), .ref (ad 18), .int v104, .ref (ad 19)]) := c105
  have q106 : fld (S76 0) 6 = v78.toInt := fld_of c105 rfl
  have q107 : fld (S76 0) 7 = v80.toInt := fld_of c105 rfl
  have q108 : fld (S76 0) 8 = v82.toInt := fld_of c105 rfl
  refine lv_aload_n hx hb dX12_currentLine_12 rfl (lv_at hl 1 rfl) ?_
  refine xcVi E hs hQ hml hl.1 0 (gX12_stepsHere_0 l g ad hD S76 hI (by omega)) mX12_stepsHere q1701 (by decide) c105 rfl rfl ⟨(Nat.le_of_ble_eq_true rfl), (Nat.le_of_ble_eq_true rfl)⟩ ⟨(Nat.le_of_ble_eq_true rfl), (Nat.le_of_ble_eq_true rfl)⟩ (Nat.le_of_ble_eq_true rfl) rfl dX12_currentLine_13 (fun r109 S109 H locs hp109 hQ _ => ?_)
  obtain ⟨hI, o109, b109, g109_0, g109_1, g109_2⟩ := hp109
  obtain ⟨v110, v111, v113, v115, v117, v118, w119, v120, v122, v123, v124, v125, v127, v129, v131, v133, v135, v136, v137, c138, b112, b114, b116, b121, b126, b128, b130, b132, b134⟩ := invM_0 hI
  have c138 : S109 0 = .inr (12, [.int v110, .ref (ad 1), .ref (ad 2), .ref (ad 3), .ref (ad 4), .ref (ad 5), .int v111, .int v113, .int v115, .int v117, .int v118, .long w119, .int v120, .int v122, .int v123, .int v124, .ref (ad 6), .ref (ad 7), .ref (ad 8), .ref (ad 9), .ref (ad 10), .ref (ad 11), .ref (ad 12), .ref (ad 13), .ref (ad 14), .ref (ad 15), .int v125, .int v127, .ref (ad 16), .int v129, .int v131, .int v133, .int v135, .int v136, .ref (ad 17), .ref (ad 18), .int v137, .ref (ad 19)]) := c138
  have q139 : fld (S109 0) 6 = v111.toInt := fld_of c138 rfl
  have q140 : fld (S109 0) 7 = v113.toInt := fld_of c138 rfl
  have q141 : fld (S109 0) 8 = v115.toInt := fld_of c138 rfl
  refine lv_istore_n (lv' := [(2, .int r109), (1, .int r40), (0, .ref (ad 0))]) hx hb dX12_currentLine_16 rfl hl (by decide) rfl (fun ls hl => ?_)
  refine lv_aload_n hx hb dX12_currentLine_17 rfl (lv_at hl 2 rfl) ?_
  refine lv_ldc2 (v := 3701) hx hb E.2.2.1 (E.2.2.2.1 _ q1682) dX12_currentLine_18 ?_
  refine xcVv E hs hQ hml hl.1 0 (gX12_asks_0 l g ad hD S109 hI 3701 (by omega)) mX12_asks q1655 (by decide) c138 rfl rfl ⟨(Nat.le_of_ble_eq_true rfl), (Nat.le_of_ble_eq_true rfl)⟩ ⟨(Nat.le_of_ble_eq_true rfl), (Nat.le_of_ble_eq_true rfl)⟩ (Nat.le_of_ble_eq_true rfl) rfl dX12_currentLine_21 (fun S142 H locs hp142 hQ _ => ?_)
  obtain ⟨hI, o142, g142_0, g142_1, g142_2⟩ := hp142
  obtain ⟨v143, v144, v146, v148, v150, v151, w152, v153, v155, v156, v157, v158, v160, v162, v164, v166, v168, v169, v170, c171, b145, b147, b149, b154, b159, b161, b163, b165, b167⟩ := invM_0 hI
  have c171 : S142 0 = .inr (12, [.int v143, .ref (ad 1), .ref (ad 2), .ref (ad 3), .ref (ad 4), .ref (ad 5), .int v144, .int v146, .int v148, .int v150, .int v151, .long w152, .int v153, .int v155, .int v156, .int v157, .ref (ad 6), .ref (ad 7), .ref (ad 8), .ref (ad 9), .ref (ad 10), .ref (ad 11), .ref (ad 12), .ref (ad 13), .ref (ad 14), .ref (ad 15), .int v158, .int v160, .ref (ad 16), .int v162, .int v164, .int v166, .int v168, .int v169, .ref (ad 17), .ref (ad 18), .int v170, .ref (ad 19)]) := c171
  have q172 : fld (S142 0) 6 = v144.toInt := fld_of c171 rfl
  have q173 : fld (S142 0) 7 = v146.toInt := fld_of c171 rfl
  have q174 : fld (S142 0) 8 = v148.toInt := fld_of c171 rfl
  refine lv_aload_n hx hb dX12_currentLine_24 rfl (lv_at hl 2 rfl) ?_
  refine xcVi E hs hQ hml hl.1 0 (gX12_stepsHere_0 l g ad hD S142 hI (by omega)) mX12_stepsHere q1701 (by decide) c171 rfl rfl ⟨(Nat.le_of_ble_eq_true rfl), (Nat.le_of_ble_eq_true rfl)⟩ ⟨(Nat.le_of_ble_eq_true rfl), (Nat.le_of_ble_eq_true rfl)⟩ (Nat.le_of_ble_eq_true rfl) rfl dX12_currentLine_25 (fun r175 S175 H locs hp175 hQ _ => ?_)
  obtain ⟨hI, o175, b175, g175_0, g175_1, g175_2⟩ := hp175
  obtain ⟨v176, v177, v179, v181, v183, v184, w185, v186, v188, v189, v190, v191, v193, v195, v197, v199, v201, v202, v203, c204, b178, b180, b182, b187, b192, b194, b196, b198, b200⟩ := invM_0 hI
  have c204 : S175 0 = .inr (12, [.int v176, .ref (ad 1), .ref (ad 2), .ref (ad 3), .ref (ad 4), .ref (ad 5), .int v177, .int v179, .int v181, .int v183, .int v184, .long w185, .int v186, .int v188, .int v189, .int v190, .ref (ad 6), .ref (ad 7), .ref (ad 8), .ref (ad 9), .ref (ad 10), .ref (ad 11), .ref (ad 12), .ref (ad 13), .ref (ad 14), .ref (ad 15), .int v191, .int v193, .ref (ad 16), .int v195, .int v197, .int v199, .int v201, .int v202, .ref (ad 17), .ref (ad 18), .int v203, .ref (ad 19)]) := c204
  have q205 : fld (S175 0) 6 = v177.toInt := fld_of c204 rfl
  have q206 : fld (S175 0) 7 = v179.toInt := fld_of c204 rfl
  have q207 : fld (S175 0) 8 = v181.toInt := fld_of c204 rfl
  refine lv_istore_n (lv' := [(3, .int r175), (2, .int r109), (1, .int r40), (0, .ref (ad 0))]) hx hb dX12_currentLine_28 rfl hl (by decide) rfl (fun ls hl => ?_)
  refine lv_aload_n hx hb dX12_currentLine_29 rfl (lv_at hl 3 rfl) ?_
  refine xcVi E hs hQ hml hl.1 0 (gX12_isGood_0 l g ad hD S175 hI ) mX12_isGood q1650 (by decide) c204 rfl rfl ⟨(Nat.le_of_ble_eq_true rfl), (Nat.le_of_ble_eq_true rfl)⟩ ⟨(Nat.le_of_ble_eq_true rfl), (Nat.le_of_ble_eq_true rfl)⟩ (Nat.le_of_ble_eq_true rfl) rfl dX12_currentLine_30 (fun r208 S208 H locs hp208 hQ _ => ?_)
  obtain ⟨rfl, b208, g208_0, g208_1⟩ := hp208
  have q209 : fld (S175 0) 12 = v186.toInt := fld_of c204 rfl
  refine lv_if_ne (tgt := 37) hx hb dX12_currentLine_33 (by decide) (fun k210 => ?_) (fun k210 => ?_)
  · have h211 := ib_ne k210
    have b212 : Bd r208 (1) (1) := rf_nlo b208 (by decide : Bd 0 (0) (0)) h211
    have g213 := g208_0.resolve_left (by omega)
    clear g208_0
    have b214 : Bd v186 (0) (0) := ⟨(b187).1, by omega⟩
    clear g208_1
    refine lv_aload_n hx hb dX12_currentLine_37 rfl (lv_at hl 3 rfl) ?_
    refine xget E hQ 0 (by decide) c204 rfl 18 (by decide) q1486 rfl dX12_currentLine_38 ?_
    refine lv_iconst (v := 2) hx hb dX12_currentLine_41 (by decide) ?_
    refine lv_bipush (v := 48) hx hb dX12_currentLine_42 (by decide) ?_
    refine lv_iload_n hx hb dX12_currentLine_44 rfl (lv_at hl 2 rfl) ?_
    refine lv_iadd hx hb dX12_currentLine_45 ?_
    refine lv_topi (fun z215 e216 => ?_)
    have t217 := ib_add e216 (by decide : Bd 48 (48) (48)) b40 (by decide) (by decide)
    have b218 : Bd z215 (48) (59) := ib_addb t217 (by decide : Bd 48 (48) (48)) b40
    have t217 : z215.toInt = 48 + r40.toInt := fold_add t217 (by decide) rfl
    refine lv_imul hx hb dX12_currentLine_46 ?_
    refine lv_topi (fun z219 e220 => ?_)
    have t221 := ib_cmul (q := 2) e220 (by decide) (by decide) b218 (by decide) (by decide)
    have b222 : Bd z219 (96) (118) := ib_mulb t221 (by decide) b218
    refine lv_iload_n hx hb dX12_currentLine_47 rfl (lv_at hl 1 rfl) ?_
    obtain ⟨f223, c224⟩ := invM_8 hI
    refine xiast E hs hQ 8 (by decide) c224 (ib_in b222 (by decide) (by decide)) dX12_currentLine_48 (fun H locs S226 eS226 hQ => ?_)
    have hI := invM_up_8 hI eS226 ⟨_, rfl⟩
    have c227 : S226 8 = .inl (g.2 0, 120, .inl (upd f223 (z219 : Int32).toNatClampNeg r109)) := up_at eS226 rfl
    refine lv_aload_n hx hb dX12_currentLine_49 rfl (lv_at hl 3 rfl) ?_
    have c228 : S226 0 = .inr (12, [.int v176, .ref (ad 1), .ref (ad 2), .ref (ad 3), .ref (ad 4), .ref (ad 5), .int v177, .int v179, .int v181, .int v183, .int v184, .long w185, .int v186, .int v188, .int v189, .int v190, .ref (ad 6), .ref (ad 7), .ref (ad 8), .ref (ad 9), .ref (ad 10), .ref (ad 11), .ref (ad 12), .ref (ad 13), .ref (ad 14), .ref (ad 15), .int v191, .int v193, .ref (ad 16), .int v195, .int v197, .int v199, .int v201, .int v202, .ref (ad 17), .ref (ad 18), .int v203, .ref (ad 19)]) := (up_ne eS226 (by decide) c204)
    refine xget E hQ 0 (by decide) c228 rfl 18 (by decide) q1486 rfl dX12_currentLine_50 ?_
    refine lv_iconst (v := 2) hx hb dX12_currentLine_53 (by decide) ?_
    refine lv_bipush (v := 48) hx hb dX12_currentLine_54 (by decide) ?_
    refine lv_iload_n hx hb dX12_currentLine_56 rfl (lv_at hl 2 rfl) ?_
    refine lv_iadd hx hb dX12_currentLine_57 ?_
    refine lv_topi (fun z229 e230 => ?_)
    have t231 := ib_add e230 (by decide : Bd 48 (48) (48)) b40 (by decide) (by decide)
    have b232 : Bd z229 (48) (59) := ib_addb t231 (by decide : Bd 48 (48) (48)) b40
    have t231 : z229.toInt = 48 + r40.toInt := fold_add t231 (by decide) rfl
    refine lv_imul hx hb dX12_currentLine_58 ?_
    refine lv_topi (fun z233 e234 => ?_)
    have t235 := ib_cmul (q := 2) e234 (by decide) (by decide) b232 (by decide) (by decide)
    have b236 : Bd z233 (96) (118) := ib_mulb t235 (by decide) b232
    refine lv_iconst (v := 1) hx hb dX12_currentLine_59 (by decide) ?_
    refine lv_iadd hx hb dX12_currentLine_60 ?_
    refine lv_topi (fun z237 e238 => ?_)
    have t239 := ib_add e238 b236 (by decide : Bd 1 (1) (1)) (by decide) (by decide)
    have b240 : Bd z237 (97) (119) := ib_addb t239 b236 (by decide : Bd 1 (1) (1))
    have t239 : z237.toInt = z233.toInt + 1 := fold_add t239 rfl (by decide)
    refine lv_iload_n hx hb dX12_currentLine_61 rfl (lv_at hl 0 rfl) ?_
    refine xiast E hs hQ 8 (by decide) c227 (ib_in b240 (by decide) (by decide)) dX12_currentLine_62 (fun H locs S241 eS241 hQ => ?_)
    have hI := invM_up_8 hI eS241 ⟨_, rfl⟩
    have c242 : S241 8 = .inl (g.2 0, 120, .inl (upd (upd f223 (z219 : Int32).toNatClampNeg r109) (z237 : Int32).toNatClampNeg r175)) := up_at eS241 rfl
    have c243 : S241 0 = .inr (12, [.int v176, .ref (ad 1), .ref (ad 2), .ref (ad 3), .ref (ad 4), .ref (ad 5), .int v177, .int v179, .int v181, .int v183, .int v184, .long w185, .int v186, .int v188, .int v189, .int v190, .ref (ad 6), .ref (ad 7), .ref (ad 8), .ref (ad 9), .ref (ad 10), .ref (ad 11), .ref (ad 12), .ref (ad 13), .ref (ad 14), .ref (ad 15), .int v191, .int v193, .ref (ad 16), .int v195, .int v197, .int v199, .int v201, .int v202, .ref (ad 17), .ref (ad 18), .int v203, .ref (ad 19)]) := (up_ne eS241 (by decide) c228)
    have q244 : fld (S241 0) 6 = v177.toInt := fld_of c243 rfl
    have q245 : fld (S241 0) 7 = v179.toInt := fld_of c243 rfl
    have q246 : fld (S241 0) 8 = v181.toInt := fld_of c243 rfl
    exact xrv E hr hlk hQ (⟨hI, (up_o (up_o (o_trans (o_trans (o_trans (o_trans (o_trans o_refl o40 (by decide)) o76 (by decide)) o109 (by decide)) o142 (by decide)) o175 (by decide)) eS226 (by decide)) eS241 (by decide)), (by omega), ⟨by omega, by omega⟩, (by omega)⟩) dX12_currentLine_63
  · have h247 := ib_eq k210
    have b248 : Bd r208 (0) (0) := ⟨(b208).1, ((rf_eq b208 (by decide : Bd 0 (0) (0)) h247).1).2⟩
    clear g208_0
    have g249 := g208_1.resolve_left (by omega)
    clear g208_1
    have b250 : Bd v186 (1) (3) := ⟨by omega, (b187).2⟩
    exact xrv E hr hlk hQ (⟨hI, (o_trans (o_trans (o_trans (o_trans (o_trans o_refl o40 (by decide)) o76 (by decide)) o109 (by decide)) o142 (by decide)) o175 (by decide)), (by omega), ⟨by omega, by omega⟩, (by omega)⟩) dX12_currentLine_36
set_option maxHeartbeats 4000000 in
set_option maxRecDepth 100000 in
theorem gX12_thingLine_0 (l : Launch) (g : GG) (ad : Nat → Nat) (hD : Dj ad 20) (S : SS) (hI : InvM g ad S) (hq1 : 0 ≤ fld (S 0) 6 + (-1) * fld (S 0) 7) (hq2 : 0 ≤ (-1) * elm (S 7) 46 + 7) (hq3 : 0 ≤ elm (S 7) 40 + (-1)) (hHT : HTp (S 7) (S 9) 4) : Met l yX12_thingLine (wG (.code yX12_thingLine cX12_thingLine 2 none)) (Rm 5) (XPre g ad 20 S [.ref (ad 0)]) (va_Qv (fun S' => InvM g ad S' ∧ (∀ j, j ∉ ([0, 7, 9] : List Nat) → S' j = S j) ∧ (0 ≤ fld (S' 0) 6 + (-1) * fld (S' 0) 7) ∧ (0 ≤ fld (S 0) 6 + (-1) * fld (S' 0) 6 ∧ 0 ≤ fld (S' 0) 6 + (-1) * fld (S 0) 6) ∧ (0 ≤ 4 * fld (S 0) 6 + (-4) * fld (S 0) 7 + fld (S 0) 8 + (-4) * fld (S' 0) 6 + 4 * fld (S' 0) 7 + (-1) * fld (S' 0) 8) ∧ (0 ≤ elm (S 7) 40 + (-1) * elm (S' 7) 40 ∧ 0 ≤ elm (S' 7) 40 + (-1) * elm (S 7) 40) ∧ (0 ≤ elm (S 7) 41 + (-1) * elm (S' 7) 41 ∧ 0 ≤ elm (S' 7) 41 + (-1) * elm (S 7) 41) ∧ (0 ≤ elm (S 7) 43 + (-1) * elm (S' 7) 43 ∧ 0 ≤ elm (S' 7) 43 + (-1) * elm (S 7) 43) ∧ (0 ≤ elm (S 7) 47 + (-1) * elm (S' 7) 47 ∧ 0 ≤ elm (S' 7) 47 + (-1) * elm (S 7) 47) ∧ (0 ≤ elm (S 7) 48 + (-1) * elm (S' 7) 48 ∧ 0 ≤ elm (S' 7) 48 + (-1) * elm (S 7) 48) ∧ (0 ≤ elm (S 7) 49 + (-1) * elm (S' 7) 49 ∧ 0 ≤ elm (S' 7) 49 + (-1) * elm (S 7) 49) ∧ (0 ≤ elm (S 7) 46 + (-1) * elm (S' 7) 46 + 1 ∧ 0 ≤ elm (S' 7) 46 + (-1) * elm (S 7) 46 + (-1)) ∧ (HTp (S' 7) (S' 9) 4) ∧ EFp (S' 7) (S 7) 0 40 ∧ EFp (S' 9) (S 9) 0 96) (QB g ad 20) (FA ad 20)) 0 0 (FA ad 20) := by
  refine xmet cX12_thingLine "EbbWreckModel" (by decide) rfl (Nat.le_of_ble_eq_true rfl) (fun p e s m below meth c E hr hlk hml hQ ls hl => ?_)
  have hx := E.1
  have hb := E.2.1
  have hs : Sp ad 20 (FA ad 20) := Sp.fa hD
  have hl : lv_has ls 2 [(0, .ref (ad 0))] := hl
  obtain ⟨v1, v2, v4, v6, v8, v9, w10, v11, v13, v14, v15, v16, v18, v20, v22, v24, v26, v27, v28, c29, b3, b5, b7, b12, b17, b19, b21, b23, b25⟩ := invM_0 hI
  have c29 : S 0 = .inr (12, [.int v1, .ref (ad 1), .ref (ad 2), .ref (ad 3), .ref (ad 4), .ref (ad 5), .int v2, .int v4, .int v6, .int v8, .int v9, .long w10, .int v11, .int v13, .int v14, .int v15, .ref (ad 6), .ref (ad 7), .ref (ad 8), .ref (ad 9), .ref (ad 10), .ref (ad 11), .ref (ad 12), .ref (ad 13), .ref (ad 14), .ref (ad 15), .int v16, .int v18, .ref (ad 16), .int v20, .int v22, .int v24, .int v26, .int v27, .ref (ad 17), .ref (ad 18), .int v28, .ref (ad 19)]) := c29
  obtain ⟨f30, c31, b32⟩ := invM_7 hI
  obtain ⟨v33, ee34⟩ : ∃ z : Int32, f30 46 = z := ⟨_, rfl⟩
  have b35 : Bd v33 (0) (8) := (by rw [← ee34]; exact b32.2.2.2.2.1 46 (by decide))
  obtain ⟨v36, ee37⟩ : ∃ z : Int32, f30 40 = z := ⟨_, rfl⟩
  have b38 : Bd v36 (0) (12) := (by rw [← ee37]; exact b32.1 40 (by decide))
  obtain ⟨v39, ee40⟩ : ∃ z : Int32, f30 41 = z := ⟨_, rfl⟩
  have b41 : Bd v39 (0) (12) := (by rw [← ee40]; exact b32.2.1 41 (by decide))
  obtain ⟨v42, ee43⟩ : ∃ z : Int32, f30 43 = z := ⟨_, rfl⟩
  have b44 : Bd v42 (0) (12) := (by rw [← ee43]; exact b32.2.2.2.1 43 (by decide))
  obtain ⟨v45, ee46⟩ : ∃ z : Int32, f30 47 = z := ⟨_, rfl⟩
  have b47 : Bd v45 (0) (6) := (by rw [← ee46]; exact b32.2.2.2.2.2.1 47 (by decide))
  obtain ⟨v48, ee49⟩ : ∃ z : Int32, f30 48 = z := ⟨_, rfl⟩
  have b50 : Bd v48 (0) (3) := (by rw [← ee49]; exact b32.2.2.2.2.2.2.1 48 (by decide))
  obtain ⟨v51, ee52⟩ : ∃ z : Int32, f30 49 = z := ⟨_, rfl⟩
  have b53 : Bd v51 (0) (40) := (by rw [← ee52]; exact b32.2.2.2.2.2.2.2 49 (by decide))
  have q54 : fld (S 0) 6 = v2.toInt := fld_of c29 rfl
  have q55 : fld (S 0) 7 = v4.toInt := fld_of c29 rfl
  have q56 : elm (S 7) 46 = v33.toInt := (elm_of c31 46).trans (congrArg Int32.toInt (ee34))
  have b57 : Bd v33 (0) (7) := ⟨(b35).1, by omega⟩
  have q58 : elm (S 7) 40 = v36.toInt := (elm_of c31 40).trans (congrArg Int32.toInt (ee37))
  have b59 : Bd v36 (1) (12) := ⟨by omega, (b38).2⟩
  have ef7_0 : EFp (S 7) (S 7) 0 40 := fun _ _ _ => rfl
  have ef9_0 : EFp (S 9) (S 9) 0 96 := fun _ _ _ => rfl
  obtain ⟨f60, c61, b62⟩ := invM_9 hI
  refine lv_iconst (v := 3) hx hb dX12_thingLine_0 (by decide) ?_
  refine lv_bipush (v := 32) hx hb dX12_thingLine_1 (by decide) ?_
  refine lv_aload_n hx hb dX12_thingLine_3 rfl (lv_at hl 0 rfl) ?_
  refine lv_bipush (v := 6) hx hb dX12_thingLine_4 (by decide) ?_
  refine xcVi E hs hQ hml hl.1 0 (gX12_hasRead_6 l g ad hD S hI ) mX12_hasRead q1697 (by decide) c29 rfl rfl ⟨(Nat.le_of_ble_eq_true rfl), (Nat.le_of_ble_eq_true rfl)⟩ ⟨(Nat.le_of_ble_eq_true rfl), (Nat.le_of_ble_eq_true rfl)⟩ (Nat.le_of_ble_eq_true rfl) rfl dX12_thingLine_6 (fun r63 S63 H locs hp63 hQ _ => ?_)
  obtain ⟨rfl, b63, g63_0⟩ := hp63
  have b64 : Bd r63 (0) (7) := ⟨(b63).1, by omega⟩
  refine lv_iadd hx hb dX12_thingLine_9 ?_
  refine lv_topi (fun z65 e66 => ?_)
  have t67 := ib_add e66 (by decide : Bd 32 (32) (32)) b64 (by decide) (by decide)
  have b68 : Bd z65 (32) (39) := ib_addb t67 (by decide : Bd 32 (32) (32)) b64
  have t67 : z65.toInt = 32 + r63.toInt := fold_add t67 (by decide) rfl
  refine lv_imul hx hb dX12_thingLine_10 ?_
  refine lv_topi (fun z69 e70 => ?_)
  have t71 := ib_cmul (q := 3) e70 (by decide) (by decide) b68 (by decide) (by decide)
  have b72 : Bd z69 (96) (117) := ib_mulb t71 (by decide) b68
  refine lv_istore_n (lv' := [(1, .int z69), (0, .ref (ad 0))]) hx hb dX12_thingLine_11 rfl hl (by decide) rfl (fun ls hl => ?_)
  refine lv_aload_n hx hb dX12_thingLine_12 rfl (lv_at hl 1 rfl) ?_
  refine xget E hQ 0 (by decide) c29 rfl 19 (by decide) q1487 rfl dX12_thingLine_13 ?_
  refine lv_iload_n hx hb dX12_thingLine_16 rfl (lv_at hl 0 rfl) ?_
  refine lv_aload_n hx hb dX12_thingLine_17 rfl (lv_at hl 1 rfl) ?_
  refine lv_ldc2 (v := 12532058) hx hb E.2.2.1 (E.2.2.2.1 _ q1716) dX12_thingLine_18 ?_
  refine lv_iconst (v := 0) hx hb dX12_thingLine_21 (by decide) ?_
  refine lv_sipush (v := 999) hx hb dX12_thingLine_22 (by decide) ?_
  refine xcVi E hs hQ hml hl.1 0 (gX12_numberw_5 l g ad hD S hI 12532058 0 999 (by decide : Bd 0 (0) (0)) (by decide : Bd 999 (999) (999)) (by omega)) mX12_number_ q1672 (by decide) c29 rfl rfl ⟨(Nat.le_of_ble_eq_true rfl), (Nat.le_of_ble_eq_true rfl)⟩ ⟨(Nat.le_of_ble_eq_true rfl), (Nat.le_of_ble_eq_true rfl)⟩ (Nat.le_of_ble_eq_true rfl) rfl dX12_thingLine_25 (fun r73 S73 H locs hp73 hQ _ => ?_)
  obtain ⟨hI, o73, b73, g73_0, g73_1, g73_2⟩ := hp73
  obtain ⟨v74, v75, v77, v79, v81, v82, w83, v84, v86, v87, v88, v89, v91, v93, v95, v97, v99, v100, v101, c102, b76, b78, b80, b85, b90, b92, b94, b96, b98⟩ := invM_0 hI
  have c102 : S73 0 = .inr (12, [.int v74, .ref (ad 1), .ref (ad 2), .ref (ad 3), .ref (ad 4), .ref (ad 5), .int v75, .int v77, .int v79, .int v81, .int v82, .long w83, .int v84, .int v86, .int v87, .int v88, .ref (ad 6), .ref (ad 7), .ref (ad 8), .ref (ad 9), .ref (ad 10), .ref (ad 11), .ref (ad 12), .ref (ad 13), .ref (ad 14), .ref (ad 15), .int v89, .int v91, .ref (ad 16), .int v93, .int v95, .int v97, .int v99, .int v100, .ref (ad 17), .ref (ad 18), .int v101, .ref (ad 19)]) := c102
  have q103 : fld (S73 0) 6 = v75.toInt := fld_of c102 rfl
  have q104 : fld (S73 0) 7 = v77.toInt := fld_of c102 rfl
  have q105 : fld (S 0) 8 = v6.toInt := fld_of c29 rfl
  have q106 : fld (S73 0) 8 = v79.toInt := fld_of c102 rfl
  have c107 : S73 9 = .inl (g.2 0, 120, .inl f60) := ((o73 9 (by decide)).trans c61)
  refine xiast E hs hQ 9 (by decide) c107 (ib_in b72 (by decide) (by decide)) dX12_thingLine_28 (fun H locs S108 eS108 hQ => ?_)
  have hI := invM_up_9 hI eS108 ⟨_, rfl, ⟨upd_mn b62.1 (by rw [clampN b72]; omega), upd_mn b62.2 (by rw [clampN b72]; omega)⟩⟩
  have b110 : (∀ j, j % 3 = 1 → Bd ((upd f60 (z69 : Int32).toNatClampNeg r73) j) (0) (11)) ∧ (∀ j, j % 3 = 2 → Bd ((upd f60 (z69 : Int32).toNatClampNeg r73) j) (0) (99)) := ⟨upd_mn b62.1 (by rw [clampN b72]; omega), upd_mn b62.2 (by rw [clampN b72]; omega)⟩
  have c109 : S108 9 = .inl (g.2 0, 120, .inl (upd f60 (z69 : Int32).toNatClampNeg r73)) := up_at eS108 rfl
  have ef111 : EFp (S108 9) (S 9) 0 96 := ef_up (ef_tr ef9_0 (o73 9 (by decide))) c107 c109 (by rw [clampN b72]; omega)
  refine lv_aload_n hx hb dX12_thingLine_29 rfl (lv_at hl 1 rfl) ?_
  refine lv_ldc2 (v := 47) hx hb E.2.2.1 (E.2.2.2.1 _ q1717) dX12_thingLine_30 ?_
  have c112 : S108 0 = .inr (12, [.int v74, .ref (ad 1), .ref (ad 2), .ref (ad 3), .ref (ad 4), .ref (ad 5), .int v75, .int v77, .int v79, .int v81, .int v82, .long w83, .int v84, .int v86, .int v87, .int v88, .ref (ad 6), .ref (ad 7), .ref (ad 8), .ref (ad 9), .ref (ad 10), .ref (ad 11), .ref (ad 12), .ref (ad 13), .ref (ad 14), .ref (ad 15), .int v89, .int v91, .ref (ad 16), .int v93, .int v95, .int v97, .int v99, .int v100, .ref (ad 17), .ref (ad 18), .int v101, .ref (ad 19)]) := (up_ne eS108 (by decide) c102)
  have q113 : fld (S108 0) 6 = v75.toInt := fld_of c112 rfl
  have q114 : fld (S108 0) 7 = v77.toInt := fld_of c112 rfl
  refine xcVv E hs hQ hml hl.1 0 (gX12_asks_0 l g ad hD S108 hI 47 (by omega)) mX12_asks q1655 (by decide) c112 rfl rfl ⟨(Nat.le_of_ble_eq_true rfl), (Nat.le_of_ble_eq_true rfl)⟩ ⟨(Nat.le_of_ble_eq_true rfl), (Nat.le_of_ble_eq_true rfl)⟩ (Nat.le_of_ble_eq_true rfl) rfl dX12_thingLine_33 (fun S115 H locs hp115 hQ _ => ?_)
  obtain ⟨hI, o115, g115_0, g115_1, g115_2⟩ := hp115
  obtain ⟨v116, v117, v119, v121, v123, v124, w125, v126, v128, v129, v130, v131, v133, v135, v137, v139, v141, v142, v143, c144, b118, b120, b122, b127, b132, b134, b136, b138, b140⟩ := invM_0 hI
  have c144 : S115 0 = .inr (12, [.int v116, .ref (ad 1), .ref (ad 2), .ref (ad 3), .ref (ad 4), .ref (ad 5), .int v117, .int v119, .int v121, .int v123, .int v124, .long w125, .int v126, .int v128, .int v129, .int v130, .ref (ad 6), .ref (ad 7), .ref (ad 8), .ref (ad 9), .ref (ad 10), .ref (ad 11), .ref (ad 12), .ref (ad 13), .ref (ad 14), .ref (ad 15), .int v131, .int v133, .ref (ad 16), .int v135, .int v137, .int v139, .int v141, .int v142, .ref (ad 17), .ref (ad 18), .int v143, .ref (ad 19)]) := c144
  have q145 : fld (S115 0) 6 = v117.toInt := fld_of c144 rfl
  have q146 : fld (S115 0) 7 = v119.toInt := fld_of c144 rfl
  have q147 : fld (S108 0) 8 = v79.toInt := fld_of c112 rfl
  have q148 : fld (S115 0) 8 = v121.toInt := fld_of c144 rfl
  refine lv_aload_n hx hb dX12_thingLine_36 rfl (lv_at hl 1 rfl) ?_
  refine xget E hQ 0 (by decide) c144 rfl 19 (by decide) q1487 rfl dX12_thingLine_37 ?_
  refine lv_iload_n hx hb dX12_thingLine_40 rfl (lv_at hl 0 rfl) ?_
  refine lv_iconst (v := 1) hx hb dX12_thingLine_41 (by decide) ?_
  refine lv_iadd hx hb dX12_thingLine_42 ?_
  refine lv_topi (fun z149 e150 => ?_)
  have t151 := ib_add e150 b72 (by decide : Bd 1 (1) (1)) (by decide) (by decide)
  have b152 : Bd z149 (97) (118) := ib_addb t151 b72 (by decide : Bd 1 (1) (1))
  have t151 : z149.toInt = z69.toInt + 1 := fold_add t151 rfl (by decide)
  refine lv_aload_n hx hb dX12_thingLine_43 rfl (lv_at hl 1 rfl) ?_
  have c153 : S115 7 = .inl (g.2 0, 50, .inl f30) := ((o115 7 (by decide)).trans (up_ne eS108 (by decide) ((o73 7 (by decide)).trans c31)))
  have q154 : elm (S115 7) 40 = v36.toInt := (elm_of c153 40).trans (congrArg Int32.toInt (ee37))
  refine xcVi E hs hQ hml hl.1 0 (gX12_cellHere_0 l g ad hD S115 hI (by omega) (by omega)) mX12_cellHere q1693 (by decide) c144 rfl rfl ⟨(Nat.le_of_ble_eq_true rfl), (Nat.le_of_ble_eq_true rfl)⟩ ⟨(Nat.le_of_ble_eq_true rfl), (Nat.le_of_ble_eq_true rfl)⟩ (Nat.le_of_ble_eq_true rfl) rfl dX12_thingLine_44 (fun r155 S155 H locs hp155 hQ _ => ?_)
  obtain ⟨hI, o155, b155, g155_0, g155_1, g155_2, g155_3⟩ := hp155
  obtain ⟨v156, v157, v159, v161, v163, v164, w165, v166, v168, v169, v170, v171, v173, v175, v177, v179, v181, v182, v183, c184, b158, b160, b162, b167, b172, b174, b176, b178, b180⟩ := invM_0 hI
  have c184 : S155 0 = .inr (12, [.int v156, .ref (ad 1), .ref (ad 2), .ref (ad 3), .ref (ad 4), .ref (ad 5), .int v157, .int v159, .int v161, .int v163, .int v164, .long w165, .int v166, .int v168, .int v169, .int v170, .ref (ad 6), .ref (ad 7), .ref (ad 8), .ref (ad 9), .ref (ad 10), .ref (ad 11), .ref (ad 12), .ref (ad 13), .ref (ad 14), .ref (ad 15), .int v171, .int v173, .ref (ad 16), .int v175, .int v177, .int v179, .int v181, .int v182, .ref (ad 17), .ref (ad 18), .int v183, .ref (ad 19)]) := c184
  have q185 : fld (S155 0) 6 = v157.toInt := fld_of c184 rfl
  have q186 : fld (S155 0) 7 = v159.toInt := fld_of c184 rfl
  have q187 : fld (S155 0) 8 = v161.toInt := fld_of c184 rfl
  have c188 : S155 7 = .inl (g.2 0, 50, .inl f30) := ((o155 7 (by decide)).trans c153)
  have q189 : elm (S155 7) 40 = v36.toInt := (elm_of c188 40).trans (congrArg Int32.toInt (ee37))
  have c190 : S155 9 = .inl (g.2 0, 120, .inl (upd f60 (z69 : Int32).toNatClampNeg r73)) := ((o155 9 (by decide)).trans ((o115 9 (by decide)).trans c109))
  refine xiast E hs hQ 9 (by decide) c190 (ib_in b152 (by decide) (by decide)) dX12_thingLine_47 (fun H locs S191 eS191 hQ => ?_)
  have hI := invM_up_9 hI eS191 ⟨_, rfl, ⟨upd_m b110.1 b155, upd_mn b110.2 (by rw [clampN b152]; omega)⟩⟩
  have b193 : (∀ j, j % 3 = 1 → Bd ((upd (upd f60 (z69 : Int32).toNatClampNeg r73) (z149 : Int32).toNatClampNeg r155) j) (0) (11)) ∧ (∀ j, j % 3 = 2 → Bd ((upd (upd f60 (z69 : Int32).toNatClampNeg r73) (z149 : Int32).toNatClampNeg r155) j) (0) (99)) := ⟨upd_m b110.1 b155, upd_mn b110.2 (by rw [clampN b152]; omega)⟩
  have c192 : S191 9 = .inl (g.2 0, 120, .inl (upd (upd f60 (z69 : Int32).toNatClampNeg r73) (z149 : Int32).toNatClampNeg r155)) := up_at eS191 rfl
  have ef194 : EFp (S191 9) (S 9) 0 96 := ef_up (ef_tr ef111 ((o155 9 (by decide)).trans (o115 9 (by decide)))) c190 c192 (by rw [clampN b152]; omega)
  refine lv_aload_n hx hb dX12_thingLine_48 rfl (lv_at hl 1 rfl) ?_
  have c195 : S191 0 = .inr (12, [.int v156, .ref (ad 1), .ref (ad 2), .ref (ad 3), .ref (ad 4), .ref (ad 5), .int v157, .int v159, .int v161, .int v163, .int v164, .long w165, .int v166, .int v168, .int v169, .int v170, .ref (ad 6), .ref (ad 7), .ref (ad 8), .ref (ad 9), .ref (ad 10), .ref (ad 11), .ref (ad 12), .ref (ad 13), .ref (ad 14), .ref (ad 15), .int v171, .int v173, .ref (ad 16), .int v175, .int v177, .int v179, .int v181, .int v182, .ref (ad 17), .ref (ad 18), .int v183, .ref (ad 19)]) := (up_ne eS191 (by decide) c184)
  refine xget E hQ 0 (by decide) c195 rfl 19 (by decide) q1487 rfl dX12_thingLine_49 ?_
  refine lv_iload_n hx hb dX12_thingLine_52 rfl (lv_at hl 0 rfl) ?_
  refine lv_iconst (v := 2) hx hb dX12_thingLine_53 (by decide) ?_
  refine lv_iadd hx hb dX12_thingLine_54 ?_
  refine lv_topi (fun z196 e197 => ?_)
  have t198 := ib_add e197 b72 (by decide : Bd 2 (2) (2)) (by decide) (by decide)
  have b199 : Bd z196 (98) (119) := ib_addb t198 b72 (by decide : Bd 2 (2) (2))
  have t198 : z196.toInt = z69.toInt + 2 := fold_add t198 rfl (by decide)
  refine lv_aload_n hx hb dX12_thingLine_55 rfl (lv_at hl 1 rfl) ?_
  refine lv_ldc2 (v := 131638) hx hb E.2.2.1 (E.2.2.2.1 _ q1718) dX12_thingLine_56 ?_
  refine lv_iconst (v := 0) hx hb dX12_thingLine_59 (by decide) ?_
  refine lv_bipush (v := 99) hx hb dX12_thingLine_60 (by decide) ?_
  have q200 : fld (S191 0) 6 = v157.toInt := fld_of c195 rfl
  have q201 : fld (S191 0) 7 = v159.toInt := fld_of c195 rfl
  refine xcVi E hs hQ hml hl.1 0 (gX12_numberw_6 l g ad hD S191 hI 131638 0 99 (by decide : Bd 0 (0) (0)) (by decide : Bd 99 (99) (99)) (by omega)) mX12_number_ q1672 (by decide) c195 rfl rfl ⟨(Nat.le_of_ble_eq_true rfl), (Nat.le_of_ble_eq_true rfl)⟩ ⟨(Nat.le_of_ble_eq_true rfl), (Nat.le_of_ble_eq_true rfl)⟩ (Nat.le_of_ble_eq_true rfl) rfl dX12_thingLine_62 (fun r202 S202 H locs hp202 hQ _ => ?_)
  obtain ⟨hI, o202, b202, g202_0, g202_1, g202_2⟩ := hp202
  obtain ⟨v203, v204, v206, v208, v210, v211, w212, v213, v215, v216, v217, v218, v220, v222, v224, v226, v228, v229, v230, c231, b205, b207, b209, b214, b219, b221, b223, b225, b227⟩ := invM_0 hI
  have c231 : S202 0 = .inr (12, [.int v203, .ref (ad 1), .ref (ad 2), .ref (ad 3), .ref (ad 4), .ref (ad 5), .int v204, .int v206, .int v208, .int v210, .int v211, .long w212, .int v213, .int v215, .int v216, .int v217, .ref (ad 6), .ref (ad 7), .ref (ad 8), .ref (ad 9), .ref (ad 10), .ref (ad 11), .ref (ad 12), .ref (ad 13), .ref (ad 14), .ref (ad 15), .int v218, .int v220, .ref (ad 16), .int v222, .int v224, .int v226, .int v228, .int v229, .ref (ad 17), .ref (ad 18), .int v230, .ref (ad 19)]) := c231
  have q232 : fld (S202 0) 6 = v204.toInt := fld_of c231 rfl
  have q233 : fld (S202 0) 7 = v206.toInt := fld_of c231 rfl
  have q234 : fld (S191 0) 8 = v161.toInt := fld_of c195 rfl
  have q235 : fld (S202 0) 8 = v208.toInt := fld_of c231 rfl
  have c236 : S202 9 = .inl (g.2 0, 120, .inl (upd (upd f60 (z69 : Int32).toNatClampNeg r73) (z149 : Int32).toNatClampNeg r155)) := ((o202 9 (by decide)).trans c192)
  refine xiast E hs hQ 9 (by decide) c236 (ib_in b199 (by decide) (by decide)) dX12_thingLine_65 (fun H locs S237 eS237 hQ => ?_)
  have hI := invM_up_9 hI eS237 ⟨_, rfl, ⟨upd_mn b193.1 (by rw [clampN b199]; omega), upd_m b193.2 b202⟩⟩
  have b239 : (∀ j, j % 3 = 1 → Bd ((upd (upd (upd f60 (z69 : Int32).toNatClampNeg r73) (z149 : Int32).toNatClampNeg r155) (z196 : Int32).toNatClampNeg r202) j) (0) (11)) ∧ (∀ j, j % 3 = 2 → Bd ((upd (upd (upd f60 (z69 : Int32).toNatClampNeg r73) (z149 : Int32).toNatClampNeg r155) (z196 : Int32).toNatClampNeg r202) j) (0) (99)) := ⟨upd_mn b193.1 (by rw [clampN b199]; omega), upd_m b193.2 b202⟩
  have c238 : S237 9 = .inl (g.2 0, 120, .inl (upd (upd (upd f60 (z69 : Int32).toNatClampNeg r73) (z149 : Int32).toNatClampNeg r155) (z196 : Int32).toNatClampNeg r202)) := up_at eS237 rfl
  have ef240 : EFp (S237 9) (S 9) 0 96 := ef_up (ef_tr ef194 (o202 9 (by decide))) c236 c238 (by rw [clampN b199]; omega)
  refine lv_aload_n hx hb dX12_thingLine_66 rfl (lv_at hl 1 rfl) ?_
  refine lv_bipush (v := 6) hx hb dX12_thingLine_67 (by decide) ?_
  refine lv_aload_n hx hb dX12_thingLine_69 rfl (lv_at hl 1 rfl) ?_
  refine lv_bipush (v := 6) hx hb dX12_thingLine_70 (by decide) ?_
  have c241 : S237 7 = .inl (g.2 0, 50, .inl f30) := (up_ne eS237 (by decide) ((o202 7 (by decide)).trans (up_ne eS191 (by decide) c188)))
  have c243 : S237 0 = .inr (12, [.int v203, .ref (ad 1), .ref (ad 2), .ref (ad 3), .ref (ad 4), .ref (ad 5), .int v204, .int v206, .int v208, .int v210, .int v211, .long w212, .int v213, .int v215, .int v216, .int v217, .ref (ad 6), .ref (ad 7), .ref (ad 8), .ref (ad 9), .ref (ad 10), .ref (ad 11), .ref (ad 12), .ref (ad 13), .ref (ad 14), .ref (ad 15), .int v218, .int v220, .ref (ad 16), .int v222, .int v224, .int v226, .int v228, .int v229, .ref (ad 17), .ref (ad 18), .int v230, .ref (ad 19)]) := (up_ne eS237 (by decide) c231)
  refine xcVi E hs hQ hml hl.1 0 (gX12_hasRead_6 l g ad hD S237 hI ) mX12_hasRead q1697 (by decide) c243 rfl rfl ⟨(Nat.le_of_ble_eq_true rfl), (Nat.le_of_ble_eq_true rfl)⟩ ⟨(Nat.le_of_ble_eq_true rfl), (Nat.le_of_ble_eq_true rfl)⟩ (Nat.le_of_ble_eq_true rfl) rfl dX12_thingLine_72 (fun r242 S242 H locs hp242 hQ _ => ?_)
  obtain ⟨rfl, b242, g242_0⟩ := hp242
  have q244 : elm (S237 7) 46 = v33.toInt := (elm_of c241 46).trans (congrArg Int32.toInt (ee34))
  have b245 : Bd r242 (0) (7) := ⟨(b242).1, by omega⟩
  refine lv_iconst (v := 1) hx hb dX12_thingLine_75 (by decide) ?_
  refine lv_iadd hx hb dX12_thingLine_76 ?_
  refine lv_topi (fun z246 e247 => ?_)
  have t248 := ib_add e247 b245 (by decide : Bd 1 (1) (1)) (by decide) (by decide)
  have b249 : Bd z246 (1) (8) := ib_addb t248 b245 (by decide : Bd 1 (1) (1))
  have t248 : z246.toInt = r242.toInt + 1 := fold_add t248 rfl (by decide)
  refine xcVv E hs hQ hml hl.1 0 (gX12_tells_6 l g ad hD S237 hI z246 (ib_wk b249 (by decide) (by decide))) mX12_tells q1629 (by decide) c243 rfl rfl ⟨(Nat.le_of_ble_eq_true rfl), (Nat.le_of_ble_eq_true rfl)⟩ ⟨(Nat.le_of_ble_eq_true rfl), (Nat.le_of_ble_eq_true rfl)⟩ (Nat.le_of_ble_eq_true rfl) rfl dX12_thingLine_77 (fun S250 H locs hp250 hQ _ => ?_)
  obtain ⟨hI, o250, g250_0, g250_1, g250_2, g250_3, g250_4, g250_5, g250_6, ef250_7⟩ := hp250
  have ef251 : EFp (S250 7) (S 7) 0 40 := ef_tt ef250_7 (ef_tr ef7_0 ((up_eq (j := 7) eS237 (by decide)).trans ((o202 7 (by decide)).trans ((up_eq (j := 7) eS191 (by decide)).trans ((o155 7 (by decide)).trans ((o115 7 (by decide)).trans ((up_eq (j := 7) eS108 (by decide)).trans (o73 7 (by decide)))))))))
  obtain ⟨f252, c253, b254⟩ := invM_7 hI
  obtain ⟨v255, ee256⟩ : ∃ z : Int32, f252 46 = z := ⟨_, rfl⟩
  have b257 : Bd v255 (0) (8) := (by rw [← ee256]; exact b254.2.2.2.2.1 46 (by decide))
  have q258 : elm (S250 7) 46 = v255.toInt := (elm_of c253 46).trans (congrArg Int32.toInt (ee256))
  have b259 : Bd v255 (1) (8) := ⟨by omega, (b257).2⟩
  have q260 : elm (S237 7) 40 = v36.toInt := (elm_of c241 40).trans (congrArg Int32.toInt (ee37))
  obtain ⟨v261, ee262⟩ : ∃ z : Int32, f252 40 = z := ⟨_, rfl⟩
  have b263 : Bd v261 (0) (12) := (by rw [← ee262]; exact b254.1 40 (by decide))
  have q264 : elm (S250 7) 40 = v261.toInt := (elm_of c253 40).trans (congrArg Int32.toInt (ee262))
  have b265 : Bd v261 (1) (12) := ⟨by omega, (b263).2⟩
  have q266 : elm (S237 7) 41 = v39.toInt := (elm_of c241 41).trans (congrArg Int32.toInt (ee40))
  obtain ⟨v267, ee268⟩ : ∃ z : Int32, f252 41 = z := ⟨_, rfl⟩
  have b269 : Bd v267 (0) (12) := (by rw [← ee268]; exact b254.2.1 41 (by decide))
  have q270 : elm (S250 7) 41 = v267.toInt := (elm_of c253 41).trans (congrArg Int32.toInt (ee268))
  have q271 : elm (S237 7) 43 = v42.toInt := (elm_of c241 43).trans (congrArg Int32.toInt (ee43))
  obtain ⟨v272, ee273⟩ : ∃ z : Int32, f252 43 = z := ⟨_, rfl⟩
  have b274 : Bd v272 (0) (12) := (by rw [← ee273]; exact b254.2.2.2.1 43 (by decide))
  have q275 : elm (S250 7) 43 = v272.toInt := (elm_of c253 43).trans (congrArg Int32.toInt (ee273))
  have q276 : elm (S237 7) 47 = v45.toInt := (elm_of c241 47).trans (congrArg Int32.toInt (ee46))
  obtain ⟨v277, ee278⟩ : ∃ z : Int32, f252 47 = z := ⟨_, rfl⟩
  have b279 : Bd v277 (0) (6) := (by rw [← ee278]; exact b254.2.2.2.2.2.1 47 (by decide))
  have q280 : elm (S250 7) 47 = v277.toInt := (elm_of c253 47).trans (congrArg Int32.toInt (ee278))
  have q281 : elm (S237 7) 48 = v48.toInt := (elm_of c241 48).trans (congrArg Int32.toInt (ee49))
  obtain ⟨v282, ee283⟩ : ∃ z : Int32, f252 48 = z := ⟨_, rfl⟩
  have b284 : Bd v282 (0) (3) := (by rw [← ee283]; exact b254.2.2.2.2.2.2.1 48 (by decide))
  have q285 : elm (S250 7) 48 = v282.toInt := (elm_of c253 48).trans (congrArg Int32.toInt (ee283))
  have q286 : elm (S237 7) 49 = v51.toInt := (elm_of c241 49).trans (congrArg Int32.toInt (ee52))
  obtain ⟨v287, ee288⟩ : ∃ z : Int32, f252 49 = z := ⟨_, rfl⟩
  have b289 : Bd v287 (0) (40) := (by rw [← ee288]; exact b254.2.2.2.2.2.2.2 49 (by decide))
  have q290 : elm (S250 7) 49 = v287.toInt := (elm_of c253 49).trans (congrArg Int32.toInt (ee288))
  have c291 : S250 0 = .inr (12, [.int v203, .ref (ad 1), .ref (ad 2), .ref (ad 3), .ref (ad 4), .ref (ad 5), .int v204, .int v206, .int v208, .int v210, .int v211, .long w212, .int v213, .int v215, .int v216, .int v217, .ref (ad 6), .ref (ad 7), .ref (ad 8), .ref (ad 9), .ref (ad 10), .ref (ad 11), .ref (ad 12), .ref (ad 13), .ref (ad 14), .ref (ad 15), .int v218, .int v220, .ref (ad 16), .int v222, .int v224, .int v226, .int v228, .int v229, .ref (ad 17), .ref (ad 18), .int v230, .ref (ad 19)]) := ((o250 0 (by decide)).trans c243)
  have q292 : fld (S250 0) 6 = v204.toInt := fld_of c291 rfl
  have q293 : fld (S250 0) 7 = v206.toInt := fld_of c291 rfl
  have q294 : fld (S250 0) 8 = v208.toInt := fld_of c291 rfl
  have q295 : elm (S 7) 41 = v39.toInt := (elm_of c31 41).trans (congrArg Int32.toInt (ee40))
  have q296 : elm (S 7) 43 = v42.toInt := (elm_of c31 43).trans (congrArg Int32.toInt (ee43))
  have q297 : elm (S 7) 47 = v45.toInt := (elm_of c31 47).trans (congrArg Int32.toInt (ee46))
  have q298 : elm (S 7) 48 = v48.toInt := (elm_of c31 48).trans (congrArg Int32.toInt (ee49))
  have q299 : elm (S 7) 49 = v51.toInt := (elm_of c31 49).trans (congrArg Int32.toInt (ee52))
  have c300 : S250 9 = .inl (g.2 0, 120, .inl (upd (upd (upd f60 (z69 : Int32).toNatClampNeg r73) (z149 : Int32).toNatClampNeg r155) (z196 : Int32).toNatClampNeg r202)) := ((o250 9 (by decide)).trans c238)
  exact xrv E hr hlk hQ (⟨hI, (o_trans (up_o (o_trans (up_o (o_trans (o_trans (up_o (o_trans o_refl o73 (by decide)) eS108 (by decide)) o115 (by decide)) o155 (by decide)) eS191 (by decide)) o202 (by decide)) eS237 (by decide)) o250 (by decide)), (by omega), ⟨by omega, by omega⟩, (by omega), ⟨by omega, by omega⟩, ⟨by omega, by omega⟩, ⟨by omega, by omega⟩, ⟨by omega, by omega⟩, ⟨by omega, by omega⟩, ⟨by omega, by omega⟩, ⟨by omega, by omega⟩, (ht_add c61 c300 hHT (by omega) (by omega) (by omega) (by omega) (by omega) (by omega) (by omega)), ef251, (ef_tr ef240 (o250 9 (by decide)))⟩) dX12_thingLine_80
set_option maxHeartbeats 4000000 in
set_option maxRecDepth 100000 in
theorem gX12_phaseHere_0 (l : Launch) (g : GG) (ad : Nat → Nat) (hD : Dj ad 20) (S : SS) (hI : InvM g ad S) (hq1 : 0 ≤ fld (S 0) 6 + (-1) * fld (S 0) 7) : Met l yX12_phaseHere (wG (.code yX12_phaseHere cX12_phaseHere 1 (some .int))) (Rm 3) (XPre g ad 20 S [.ref (ad 0)]) (va_Qi (fun r S' => InvM g ad S' ∧ (∀ j, j ∉ ([0] : List Nat) → S' j = S j) ∧ Bd r (0) (4) ∧ (0 ≤ fld (S' 0) 6 + (-1) * fld (S' 0) 7) ∧ (0 ≤ fld (S 0) 6 + (-1) * fld (S' 0) 6 ∧ 0 ≤ fld (S' 0) 6 + (-1) * fld (S 0) 6) ∧ (0 ≤ 4 * fld (S 0) 6 + (-4) * fld (S 0) 7 + fld (S 0) 8 + (-4) * fld (S' 0) 6 + 4 * fld (S' 0) 7 + (-1) * fld (S' 0) 8) ∧ ((r.toInt + (-1) < 0 ∨ (0 ≤ 4 * fld (S 0) 6 + (-4) * fld (S 0) 7 + fld (S 0) 8 + (-4) * fld (S' 0) 6 + 4 * fld (S' 0) 7 + (-1) * fld (S' 0) 8 + (-1))))) (QB g ad 20) (FA ad 20)) 0 0 (FA ad 20) := by
  refine xmet cX12_phaseHere "EbbWreckModel" (by decide) rfl (Nat.le_of_ble_eq_true rfl) (fun p e s m below meth c E hr hlk hml hQ ls hl => ?_)
  have hx := E.1
  have hb := E.2.1
  have hs : Sp ad 20 (FA ad 20) := Sp.fa hD
  have hl : lv_has ls 1 [(0, .ref (ad 0))] := hl
  obtain ⟨v1, v2, v4, v6, v8, v9, w10, v11, v13, v14, v15, v16, v18, v20, v22, v24, v26, v27, v28, c29, b3, b5, b7, b12, b17, b19, b21, b23, b25⟩ := invM_0 hI
  have c29 : S 0 = .inr (12, [.int v1, .ref (ad 1), .ref (ad 2), .ref (ad 3), .ref (ad 4), .ref (ad 5), .int v2, .int v4, .int v6, .int v8, .int v9, .long w10, .int v11, .int v13, .int v14, .int v15, .ref (ad 6), .ref (ad 7), .ref (ad 8), .ref (ad 9), .ref (ad 10), .ref (ad 11), .ref (ad 12), .ref (ad 13), .ref (ad 14), .ref (ad 15), .int v16, .int v18, .ref (ad 16), .int v20, .int v22, .int v24, .int v26, .int v27, .ref (ad 17), .ref (ad 18), .int v28, .ref (ad 19)]) := c29
  have q30 : fld (S 0) 6 = v2.toInt := fld_of c29 rfl
  have q31 : fld (S 0) 7 = v4.toInt := fld_of c29 rfl
  refine lv_aload_n hx hb dX12_phaseHere_0 rfl (lv_at hl 0 rfl) ?_
  refine xget E hQ 0 (by decide) c29 rfl 12 (by decide) q1480 rfl dX12_phaseHere_1 ?_
  refine lv_if_ne (tgt := 19) hx hb dX12_phaseHere_4 (by decide) (fun k32 => ?_) (fun k32 => ?_)
  · have h33 := ib_ne k32
    have b34 : Bd v11 (1) (3) := rf_nlo b12 (by decide : Bd 0 (0) (0)) h33
    refine lv_aload_n hx hb dX12_phaseHere_19 rfl (lv_at hl 0 rfl) ?_
    refine xget E hQ 0 (by decide) c29 rfl 12 (by decide) q1480 rfl dX12_phaseHere_20 ?_
    refine lv_if_ne (tgt := 38) hx hb dX12_phaseHere_23 (by decide) (fun k35 => ?_) (fun k35 => ?_)
    · have h36 := ib_ne k35
      refine lv_aload_n hx hb dX12_phaseHere_38 rfl (lv_at hl 0 rfl) ?_
      refine xget E hQ 0 (by decide) c29 rfl 12 (by decide) q1480 rfl dX12_phaseHere_39 ?_
      refine lv_if_ne (tgt := 57) hx hb dX12_phaseHere_42 (by decide) (fun k37 => ?_) (fun k37 => ?_)
      · have h38 := ib_ne k37
        refine lv_iconst (v := 0) hx hb dX12_phaseHere_57 (by decide) ?_
        have q39 : fld (S 0) 8 = v6.toInt := fld_of c29 rfl
        have q40 : (0 : Int32).toInt = 0 := by decide
        exact xri E hr hlk hQ (⟨hI, o_refl, (ib_wk (by decide : Bd 0 (0) (0)) (by decide) (by decide)), (by omega), ⟨by omega, by omega⟩, (by omega), Or.inl (by omega)⟩) dX12_phaseHere_58
      · have h41 := ib_eq k37
        have b42 : Bd v11 (1) (0) := ⟨(b34).1, ((rf_eq b34 (by decide : Bd 0 (0) (0)) h41).1).2⟩
        exact absurd (Int.le_trans b42.1 b42.2) (by decide)
    · have h43 := ib_eq k35
      have b44 : Bd v11 (1) (0) := ⟨(b34).1, ((rf_eq b34 (by decide : Bd 0 (0) (0)) h43).1).2⟩
      exact absurd (Int.le_trans b44.1 b44.2) (by decide)
  · have h45 := ib_eq k32
    have b46 : Bd v11 (0) (0) := ⟨(b12).1, ((rf_eq b12 (by decide : Bd 0 (0) (0)) h45).1).2⟩
    refine lv_aload_n hx hb dX12_phaseHere_7 rfl (lv_at hl 0 rfl) ?_
    refine lv_ldc2 (v := 3436186) hx hb E.2.2.1 (E.2.2.2.1 _ q1680) dX12_phaseHere_8 ?_
    refine xcVi E hs hQ hml hl.1 0 (gX12_takes_0 l g ad hD S hI 3436186 (by omega)) mX12_takes q1659 (by decide) c29 rfl rfl ⟨(Nat.le_of_ble_eq_true rfl), (Nat.le_of_ble_eq_true rfl)⟩ ⟨(Nat.le_of_ble_eq_true rfl), (Nat.le_of_ble_eq_true rfl)⟩ (Nat.le_of_ble_eq_true rfl) rfl dX12_phaseHere_11 (fun r47 S47 H locs hp47 hQ _ => ?_)
    obtain ⟨hI, o47, b47, g47_0, g47_1, g47_2, g47_3, g47_4⟩ := hp47
    obtain ⟨v48, v49, v51, v53, v55, v56, w57, v58, v60, v61, v62, v63, v65, v67, v69, v71, v73, v74, v75, c76, b50, b52, b54, b59, b64, b66, b68, b70, b72⟩ := invM_0 hI
    have c76 : S47 0 = .inr (12, [.int v48, .ref (ad 1), .ref (ad 2), .ref (ad 3), .ref (ad 4), .ref (ad 5), .int v49, .int v51, .int v53, .int v55, .int v56, .long w57, .int v58, .int v60, .int v61, .int v62, .ref (ad 6), .ref (ad 7), .ref (ad 8), .ref (ad 9), .ref (ad 10), .ref (ad 11), .ref (ad 12), .ref (ad 13), .ref (ad 14), .ref (ad 15), .int v63, .int v65, .ref (ad 16), .int v67, .int v69, .int v71, .int v73, .int v74, .ref (ad 17), .ref (ad 18), .int v75, .ref (ad 19)]) := c76
    have q77 : fld (S47 0) 6 = v49.toInt := fld_of c76 rfl
    have q78 : fld (S47 0) 7 = v51.toInt := fld_of c76 rfl
    have q79 : fld (S 0) 8 = v6.toInt := fld_of c29 rfl
    have q80 : fld (S47 0) 8 = v53.toInt := fld_of c76 rfl
    have q81 : fld (S 0) 12 = v11.toInt := fld_of c29 rfl
    have q82 : fld (S47 0) 12 = v58.toInt := fld_of c76 rfl
    have b83 : Bd v58 (0) (0) := ⟨(b59).1, by omega⟩
    refine lv_if_eq (tgt := 19) hx hb dX12_phaseHere_14 (by decide) (fun k84 => ?_) (fun k84 => ?_)
    · have h85 := ib_eq k84
      have b86 : Bd r47 (0) (0) := ⟨(b47).1, ((rf_eq b47 (by decide : Bd 0 (0) (0)) h85).1).2⟩
      clear g47_4
      refine lv_aload_n hx hb dX12_phaseHere_19 rfl (lv_at hl 0 rfl) ?_
      refine xget E hQ 0 (by decide) c76 rfl 12 (by decide) q1480 rfl dX12_phaseHere_20 ?_
      refine lv_if_ne (tgt := 38) hx hb dX12_phaseHere_23 (by decide) (fun k87 => ?_) (fun k87 => ?_)
      · have h88 := ib_ne k87
        exact absurd (Int.le_antisymm (Int.le_trans (b83).2 ((by decide : Bd 0 (0) (0))).1) (Int.le_trans ((by decide : Bd 0 (0) (0))).2 (b83).1)) h88
      · have h89 := ib_eq k87
        refine lv_aload_n hx hb dX12_phaseHere_26 rfl (lv_at hl 0 rfl) ?_
        refine lv_ldc2 (v := 10334396) hx hb E.2.2.1 (E.2.2.2.1 _ q1681) dX12_phaseHere_27 ?_
        refine xcVi E hs hQ hml hl.1 0 (gX12_takes_0 l g ad hD S47 hI 10334396 (by omega)) mX12_takes q1659 (by decide) c76 rfl rfl ⟨(Nat.le_of_ble_eq_true rfl), (Nat.le_of_ble_eq_true rfl)⟩ ⟨(Nat.le_of_ble_eq_true rfl), (Nat.le_of_ble_eq_true rfl)⟩ (Nat.le_of_ble_eq_true rfl) rfl dX12_phaseHere_30 (fun r90 S90 H locs hp90 hQ _ => ?_)
        obtain ⟨hI, o90, b90, g90_0, g90_1, g90_2, g90_3, g90_4⟩ := hp90
        obtain ⟨v91, v92, v94, v96, v98, v99, w100, v101, v103, v104, v105, v106, v108, v110, v112, v114, v116, v117, v118, c119, b93, b95, b97, b102, b107, b109, b111, b113, b115⟩ := invM_0 hI
        have c119 : S90 0 = .inr (12, [.int v91, .ref (ad 1), .ref (ad 2), .ref (ad 3), .ref (ad 4), .ref (ad 5), .int v92, .int v94, .int v96, .int v98, .int v99, .long w100, .int v101, .int v103, .int v104, .int v105, .ref (ad 6), .ref (ad 7), .ref (ad 8), .ref (ad 9), .ref (ad 10), .ref (ad 11), .ref (ad 12), .ref (ad 13), .ref (ad 14), .ref (ad 15), .int v106, .int v108, .ref (ad 16), .int v110, .int v112, .int v114, .int v116, .int v117, .ref (ad 17), .ref (ad 18), .int v118, .ref (ad 19)]) := c119
        have q120 : fld (S90 0) 6 = v92.toInt := fld_of c119 rfl
        have q121 : fld (S90 0) 7 = v94.toInt := fld_of c119 rfl
        have q122 : fld (S90 0) 8 = v96.toInt := fld_of c119 rfl
        have q123 : fld (S90 0) 12 = v101.toInt := fld_of c119 rfl
        have b124 : Bd v101 (0) (0) := ⟨(b102).1, by omega⟩
        refine lv_if_eq (tgt := 38) hx hb dX12_phaseHere_33 (by decide) (fun k125 => ?_) (fun k125 => ?_)
        · have h126 := ib_eq k125
          have b127 : Bd r90 (0) (0) := ⟨(b90).1, ((rf_eq b90 (by decide : Bd 0 (0) (0)) h126).1).2⟩
          clear g90_4
          refine lv_aload_n hx hb dX12_phaseHere_38 rfl (lv_at hl 0 rfl) ?_
          refine xget E hQ 0 (by decide) c119 rfl 12 (by decide) q1480 rfl dX12_phaseHere_39 ?_
          refine lv_if_ne (tgt := 57) hx hb dX12_phaseHere_42 (by decide) (fun k128 => ?_) (fun k128 => ?_)
          · have h129 := ib_ne k128
            exact absurd (Int.le_antisymm (Int.le_trans (b124).2 ((by decide : Bd 0 (0) (0))).1) (Int.le_trans ((by decide : Bd 0 (0) (0))).2 (b124).1)) h129
          · have h130 := ib_eq k128
            refine lv_aload_n hx hb dX12_phaseHere_45 rfl (lv_at hl 0 rfl) ?_
            refine lv_ldc2 (v := 3701) hx hb E.2.2.1 (E.2.2.2.1 _ q1682) dX12_phaseHere_46 ?_
            refine xcVi E hs hQ hml hl.1 0 (gX12_takes_0 l g ad hD S90 hI 3701 (by omega)) mX12_takes q1659 (by decide) c119 rfl rfl ⟨(Nat.le_of_ble_eq_true rfl), (Nat.le_of_ble_eq_true rfl)⟩ ⟨(Nat.le_of_ble_eq_true rfl), (Nat.le_of_ble_eq_true rfl)⟩ (Nat.le_of_ble_eq_true rfl) rfl dX12_phaseHere_49 (fun r131 S131 H locs hp131 hQ _ => ?_)
            obtain ⟨hI, o131, b131, g131_0, g131_1, g131_2, g131_3, g131_4⟩ := hp131
            obtain ⟨v132, v133, v135, v137, v139, v140, w141, v142, v144, v145, v146, v147, v149, v151, v153, v155, v157, v158, v159, c160, b134, b136, b138, b143, b148, b150, b152, b154, b156⟩ := invM_0 hI
            have c160 : S131 0 = .inr (12, [.int v132, .ref (ad 1), .ref (ad 2), .ref (ad 3), .ref (ad 4), .ref (ad 5), .int v133, .int v135, .int v137, .int v139, .int v140, .long w141, .int v142, .int v144, .int v145, .int v146, .ref (ad 6), .ref (ad 7), .ref (ad 8), .ref (ad 9), .ref (ad 10), .ref (ad 11), .ref (ad 12), .ref (ad 13), .ref (ad 14), .ref (ad 15), .int v147, .int v149, .ref (ad 16), .int v151, .int v153, .int v155, .int v157, .int v158, .ref (ad 17), .ref (ad 18), .int v159, .ref (ad 19)]) := c160
            have q161 : fld (S131 0) 6 = v133.toInt := fld_of c160 rfl
            have q162 : fld (S131 0) 7 = v135.toInt := fld_of c160 rfl
            have q163 : fld (S131 0) 8 = v137.toInt := fld_of c160 rfl
            have q164 : fld (S131 0) 12 = v142.toInt := fld_of c160 rfl
            have b165 : Bd v142 (0) (0) := ⟨(b143).1, by omega⟩
            refine lv_if_eq (tgt := 57) hx hb dX12_phaseHere_52 (by decide) (fun k166 => ?_) (fun k166 => ?_)
            · have h167 := ib_eq k166
              have b168 : Bd r131 (0) (0) := ⟨(b131).1, ((rf_eq b131 (by decide : Bd 0 (0) (0)) h167).1).2⟩
              clear g131_4
              refine lv_iconst (v := 0) hx hb dX12_phaseHere_57 (by decide) ?_
              have q169 : (0 : Int32).toInt = 0 := by decide
              exact xri E hr hlk hQ (⟨hI, (o_trans (o_trans (o_trans o_refl o47 (by decide)) o90 (by decide)) o131 (by decide)), (ib_wk (by decide : Bd 0 (0) (0)) (by decide) (by decide)), (by omega), ⟨by omega, by omega⟩, (by omega), Or.inl (by omega)⟩) dX12_phaseHere_58
            · have h170 := ib_ne k166
              have b171 : Bd r131 (1) (1) := rf_nlo b131 (by decide : Bd 0 (0) (0)) h170
              have g172 := g131_4.resolve_left (by omega)
              clear g131_4
              refine lv_iconst (v := 4) hx hb dX12_phaseHere_55 (by decide) ?_
              have q173 : (4 : Int32).toInt = 4 := by decide
              exact xri E hr hlk hQ (⟨hI, (o_trans (o_trans (o_trans o_refl o47 (by decide)) o90 (by decide)) o131 (by decide)), (ib_wk (by decide : Bd 4 (4) (4)) (by decide) (by decide)), (by omega), ⟨by omega, by omega⟩, (by omega), Or.inr (by omega)⟩) dX12_phaseHere_56
        · have h174 := ib_ne k125
          have b175 : Bd r90 (1) (1) := rf_nlo b90 (by decide : Bd 0 (0) (0)) h174
          have g176 := g90_4.resolve_left (by omega)
          clear g90_4
          refine lv_iconst (v := 2) hx hb dX12_phaseHere_36 (by decide) ?_
          have q177 : (2 : Int32).toInt = 2 := by decide
          exact xri E hr hlk hQ (⟨hI, (o_trans (o_trans o_refl o47 (by decide)) o90 (by decide)), (ib_wk (by decide : Bd 2 (2) (2)) (by decide) (by decide)), (by omega), ⟨by omega, by omega⟩, (by omega), Or.inr (by omega)⟩) dX12_phaseHere_37
    · have h178 := ib_ne k84
      have b179 : Bd r47 (1) (1) := rf_nlo b47 (by decide : Bd 0 (0) (0)) h178
      have g180 := g47_4.resolve_left (by omega)
      clear g47_4
      refine lv_iconst (v := 1) hx hb dX12_phaseHere_17 (by decide) ?_
      have q181 : (1 : Int32).toInt = 1 := by decide
      exact xri E hr hlk hQ (⟨hI, (o_trans o_refl o47 (by decide)), (ib_wk (by decide : Bd 1 (1) (1)) (by decide) (by decide)), (by omega), ⟨by omega, by omega⟩, (by omega), Or.inr (by omega)⟩) dX12_phaseHere_18
set_option maxHeartbeats 4000000 in
set_option maxRecDepth 100000 in
theorem gX12_ruleLine_0 (l : Launch) (g : GG) (ad : Nat → Nat) (hD : Dj ad 20) (S : SS) (hI : InvM g ad S) (hq1 : 0 ≤ fld (S 0) 6 + (-1) * fld (S 0) 7) (hq2 : 0 ≤ (-1) * elm (S 7) 47 + 5) (hq3 : 0 ≤ elm (S 7) 40 + (-1)) : Met l yX12_ruleLine (wG (.code yX12_ruleLine cX12_ruleLine 4 none)) (Rm 4) (XPre g ad 20 S [.ref (ad 0)]) (va_Qv (fun S' => InvM g ad S' ∧ (∀ j, j ∉ ([0, 7, 10] : List Nat) → S' j = S j) ∧ (0 ≤ fld (S' 0) 6 + (-1) * fld (S' 0) 7) ∧ (0 ≤ fld (S 0) 6 + (-1) * fld (S' 0) 6 ∧ 0 ≤ fld (S' 0) 6 + (-1) * fld (S 0) 6) ∧ (0 ≤ 4 * fld (S 0) 6 + (-4) * fld (S 0) 7 + fld (S 0) 8 + (-4) * fld (S' 0) 6 + 4 * fld (S' 0) 7 + (-1) * fld (S' 0) 8) ∧ (0 ≤ elm (S 7) 40 + (-1) * elm (S' 7) 40 ∧ 0 ≤ elm (S' 7) 40 + (-1) * elm (S 7) 40) ∧ (0 ≤ elm (S 7) 41 + (-1) * elm (S' 7) 41 ∧ 0 ≤ elm (S' 7) 41 + (-1) * elm (S 7) 41) ∧ (0 ≤ elm (S 7) 43 + (-1) * elm (S' 7) 43 ∧ 0 ≤ elm (S' 7) 43 + (-1) * elm (S 7) 43) ∧ (0 ≤ elm (S 7) 46 + (-1) * elm (S' 7) 46 ∧ 0 ≤ elm (S' 7) 46 + (-1) * elm (S 7) 46) ∧ (0 ≤ elm (S 7) 48 + (-1) * elm (S' 7) 48 ∧ 0 ≤ elm (S' 7) 48 + (-1) * elm (S 7) 48) ∧ (0 ≤ elm (S 7) 49 + (-1) * elm (S' 7) 49 ∧ 0 ≤ elm (S' 7) 49 + (-1) * elm (S 7) 49) ∧ EFp (S' 7) (S 7) 0 40) (QB g ad 20) (FA ad 20)) 0 0 (FA ad 20) := by
  refine xmet cX12_ruleLine "EbbWreckModel" (by decide) rfl (Nat.le_of_ble_eq_true rfl) (fun p e s m below meth c E hr hlk hml hQ ls hl => ?_)
  have hx := E.1
  have hb := E.2.1
  have hs : Sp ad 20 (FA ad 20) := Sp.fa hD
  have hl : lv_has ls 4 [(0, .ref (ad 0))] := hl
  obtain ⟨v1, v2, v4, v6, v8, v9, w10, v11, v13, v14, v15, v16, v18, v20, v22, v24, v26, v27, v28, c29, b3, b5, b7, b12, b17, b19, b21, b23, b25⟩ := invM_0 hI
  have c29 : S 0 = .inr (12, [.int v1, .ref (ad 1), .ref (ad 2), .ref (ad 3), .ref (ad 4), .ref (ad 5), .int v2, .int v4, .int v6, .int v8, .int v9, .long w10, .int v11, .int v13, .int v14, .int v15, .ref (ad 6), .ref (ad 7), .ref (ad 8), .ref (ad 9), .ref (ad 10), .ref (ad 11), .ref (ad 12), .ref (ad 13), .ref (ad 14), .ref (ad 15), .int v16, .int v18, .ref (ad 16), .int v20, .int v22, .int v24, .int v26, .int v27, .ref (ad 17), .ref (ad 18), .int v28, .ref (ad 19)]) := c29
  obtain ⟨f30, c31, b32⟩ := invM_7 hI
  obtain ⟨v33, ee34⟩ : ∃ z : Int32, f30 47 = z := ⟨_, rfl⟩
  have b35 : Bd v33 (0) (6) := (by rw [← ee34]; exact b32.2.2.2.2.2.1 47 (by decide))
  obtain ⟨v36, ee37⟩ : ∃ z : Int32, f30 40 = z := ⟨_, rfl⟩
  have b38 : Bd v36 (0) (12) := (by rw [← ee37]; exact b32.1 40 (by decide))
  obtain ⟨v39, ee40⟩ : ∃ z : Int32, f30 41 = z := ⟨_, rfl⟩
  have b41 : Bd v39 (0) (12) := (by rw [← ee40]; exact b32.2.1 41 (by decide))
  obtain ⟨v42, ee43⟩ : ∃ z : Int32, f30 43 = z := ⟨_, rfl⟩
  have b44 : Bd v42 (0) (12) := (by rw [← ee43]; exact b32.2.2.2.1 43 (by decide))
  obtain ⟨v45, ee46⟩ : ∃ z : Int32, f30 46 = z := ⟨_, rfl⟩
  have b47 : Bd v45 (0) (8) := (by rw [← ee46]; exact b32.2.2.2.2.1 46 (by decide))
  obtain ⟨v48, ee49⟩ : ∃ z : Int32, f30 48 = z := ⟨_, rfl⟩
  have b50 : Bd v48 (0) (3) := (by rw [← ee49]; exact b32.2.2.2.2.2.2.1 48 (by decide))
  obtain ⟨v51, ee52⟩ : ∃ z : Int32, f30 49 = z := ⟨_, rfl⟩
  have b53 : Bd v51 (0) (40) := (by rw [← ee52]; exact b32.2.2.2.2.2.2.2 49 (by decide))
  have q54 : fld (S 0) 6 = v2.toInt := fld_of c29 rfl
  have q55 : fld (S 0) 7 = v4.toInt := fld_of c29 rfl
  have q56 : elm (S 7) 47 = v33.toInt := (elm_of c31 47).trans (congrArg Int32.toInt (ee34))
  have b57 : Bd v33 (0) (5) := ⟨(b35).1, by omega⟩
  have q58 : elm (S 7) 40 = v36.toInt := (elm_of c31 40).trans (congrArg Int32.toInt (ee37))
  have b59 : Bd v36 (1) (12) := ⟨by omega, (b38).2⟩
  have ef7_0 : EFp (S 7) (S 7) 0 40 := fun _ _ _ => rfl
  refine lv_iconst (v := 4) hx hb dX12_ruleLine_0 (by decide) ?_
  refine lv_bipush (v := 24) hx hb dX12_ruleLine_1 (by decide) ?_
  refine lv_aload_n hx hb dX12_ruleLine_3 rfl (lv_at hl 0 rfl) ?_
  refine lv_bipush (v := 7) hx hb dX12_ruleLine_4 (by decide) ?_
  refine xcVi E hs hQ hml hl.1 0 (gX12_hasRead_7 l g ad hD S hI ) mX12_hasRead q1697 (by decide) c29 rfl rfl ⟨(Nat.le_of_ble_eq_true rfl), (Nat.le_of_ble_eq_true rfl)⟩ ⟨(Nat.le_of_ble_eq_true rfl), (Nat.le_of_ble_eq_true rfl)⟩ (Nat.le_of_ble_eq_true rfl) rfl dX12_ruleLine_6 (fun r60 S60 H locs hp60 hQ _ => ?_)
  obtain ⟨rfl, b60, g60_0⟩ := hp60
  have b61 : Bd r60 (0) (5) := ⟨(b60).1, by omega⟩
  refine lv_iadd hx hb dX12_ruleLine_9 ?_
  refine lv_topi (fun z62 e63 => ?_)
  have t64 := ib_add e63 (by decide : Bd 24 (24) (24)) b61 (by decide) (by decide)
  have b65 : Bd z62 (24) (29) := ib_addb t64 (by decide : Bd 24 (24) (24)) b61
  have t64 : z62.toInt = 24 + r60.toInt := fold_add t64 (by decide) rfl
  refine lv_imul hx hb dX12_ruleLine_10 ?_
  refine lv_topi (fun z66 e67 => ?_)
  have t68 := ib_cmul (q := 4) e67 (by decide) (by decide) b65 (by decide) (by decide)
  have b69 : Bd z66 (96) (116) := ib_mulb t68 (by decide) b65
  refine lv_istore_n (lv' := [(1, .int z66), (0, .ref (ad 0))]) hx hb dX12_ruleLine_11 rfl hl (by decide) rfl (fun ls hl => ?_)
  refine lv_aload_n hx hb dX12_ruleLine_12 rfl (lv_at hl 1 rfl) ?_
  refine xget E hQ 0 (by decide) c29 rfl 20 (by decide) q1488 rfl dX12_ruleLine_13 ?_
  refine lv_iload_n hx hb dX12_ruleLine_16 rfl (lv_at hl 0 rfl) ?_
  refine lv_aload_n hx hb dX12_ruleLine_17 rfl (lv_at hl 1 rfl) ?_
  refine xcVi E hs hQ hml hl.1 0 (gX12_cellHere_0 l g ad hD S hI (by omega) (by omega)) mX12_cellHere q1693 (by decide) c29 rfl rfl ⟨(Nat.le_of_ble_eq_true rfl), (Nat.le_of_ble_eq_true rfl)⟩ ⟨(Nat.le_of_ble_eq_true rfl), (Nat.le_of_ble_eq_true rfl)⟩ (Nat.le_of_ble_eq_true rfl) rfl dX12_ruleLine_18 (fun r70 S70 H locs hp70 hQ _ => ?_)
  obtain ⟨hI, o70, b70, g70_0, g70_1, g70_2, g70_3⟩ := hp70
  obtain ⟨v71, v72, v74, v76, v78, v79, w80, v81, v83, v84, v85, v86, v88, v90, v92, v94, v96, v97, v98, c99, b73, b75, b77, b82, b87, b89, b91, b93, b95⟩ := invM_0 hI
  have c99 : S70 0 = .inr (12, [.int v71, .ref (ad 1), .ref (ad 2), .ref (ad 3), .ref (ad 4), .ref (ad 5), .int v72, .int v74, .int v76, .int v78, .int v79, .long w80, .int v81, .int v83, .int v84, .int v85, .ref (ad 6), .ref (ad 7), .ref (ad 8), .ref (ad 9), .ref (ad 10), .ref (ad 11), .ref (ad 12), .ref (ad 13), .ref (ad 14), .ref (ad 15), .int v86, .int v88, .ref (ad 16), .int v90, .int v92, .int v94, .int v96, .int v97, .ref (ad 17), .ref (ad 18), .int v98, .ref (ad 19)]) := c99
  have q100 : fld (S70 0) 6 = v72.toInt := fld_of c99 rfl
  have q101 : fld (S70 0) 7 = v74.toInt := fld_of c99 rfl
  have q102 : fld (S 0) 8 = v6.toInt := fld_of c29 rfl
  have q103 : fld (S70 0) 8 = v76.toInt := fld_of c99 rfl
  have c104 : S70 7 = .inl (g.2 0, 50, .inl f30) := ((o70 7 (by decide)).trans c31)
  have q105 : elm (S70 7) 40 = v36.toInt := (elm_of c104 40).trans (congrArg Int32.toInt (ee37))
  obtain ⟨f106, c107⟩ := invM_10 hI
  refine xiast E hs hQ 10 (by decide) c107 (ib_in b69 (by decide) (by decide)) dX12_ruleLine_21 (fun H locs S109 eS109 hQ => ?_)
  have hI := invM_up_10 hI eS109 ⟨_, rfl⟩
  have c110 : S109 10 = .inl (g.2 0, 120, .inl (upd f106 (z66 : Int32).toNatClampNeg r70)) := up_at eS109 rfl
  refine lv_aload_n hx hb dX12_ruleLine_22 rfl (lv_at hl 1 rfl) ?_
  refine lv_ldc2 (v := 555) hx hb E.2.2.1 (E.2.2.2.1 _ q1724) dX12_ruleLine_23 ?_
  have c111 : S109 0 = .inr (12, [.int v71, .ref (ad 1), .ref (ad 2), .ref (ad 3), .ref (ad 4), .ref (ad 5), .int v72, .int v74, .int v76, .int v78, .int v79, .long w80, .int v81, .int v83, .int v84, .int v85, .ref (ad 6), .ref (ad 7), .ref (ad 8), .ref (ad 9), .ref (ad 10), .ref (ad 11), .ref (ad 12), .ref (ad 13), .ref (ad 14), .ref (ad 15), .int v86, .int v88, .ref (ad 16), .int v90, .int v92, .int v94, .int v96, .int v97, .ref (ad 17), .ref (ad 18), .int v98, .ref (ad 19)]) := (up_ne eS109 (by decide) c99)
  have q112 : fld (S109 0) 6 = v72.toInt := fld_of c111 rfl
  have q113 : fld (S109 0) 7 = v74.toInt := fld_of c111 rfl
  refine xcVv E hs hQ hml hl.1 0 (gX12_asks_0 l g ad hD S109 hI 555 (by omega)) mX12_asks q1655 (by decide) c111 rfl rfl ⟨(Nat.le_of_ble_eq_true rfl), (Nat.le_of_ble_eq_true rfl)⟩ ⟨(Nat.le_of_ble_eq_true rfl), (Nat.le_of_ble_eq_true rfl)⟩ (Nat.le_of_ble_eq_true rfl) rfl dX12_ruleLine_26 (fun S114 H locs hp114 hQ _ => ?_)
  obtain ⟨hI, o114, g114_0, g114_1, g114_2⟩ := hp114
  obtain ⟨v115, v116, v118, v120, v122, v123, w124, v125, v127, v128, v129, v130, v132, v134, v136, v138, v140, v141, v142, c143, b117, b119, b121, b126, b131, b133, b135, b137, b139⟩ := invM_0 hI
  have c143 : S114 0 = .inr (12, [.int v115, .ref (ad 1), .ref (ad 2), .ref (ad 3), .ref (ad 4), .ref (ad 5), .int v116, .int v118, .int v120, .int v122, .int v123, .long w124, .int v125, .int v127, .int v128, .int v129, .ref (ad 6), .ref (ad 7), .ref (ad 8), .ref (ad 9), .ref (ad 10), .ref (ad 11), .ref (ad 12), .ref (ad 13), .ref (ad 14), .ref (ad 15), .int v130, .int v132, .ref (ad 16), .int v134, .int v136, .int v138, .int v140, .int v141, .ref (ad 17), .ref (ad 18), .int v142, .ref (ad 19)]) := c143
  have q144 : fld (S114 0) 6 = v116.toInt := fld_of c143 rfl
  have q145 : fld (S114 0) 7 = v118.toInt := fld_of c143 rfl
  have q146 : fld (S109 0) 8 = v76.toInt := fld_of c111 rfl
  have q147 : fld (S114 0) 8 = v120.toInt := fld_of c143 rfl
  refine lv_aload_n hx hb dX12_ruleLine_29 rfl (lv_at hl 1 rfl) ?_
  refine xget E hQ 0 (by decide) c143 rfl 20 (by decide) q1488 rfl dX12_ruleLine_30 ?_
  refine lv_iload_n hx hb dX12_ruleLine_33 rfl (lv_at hl 0 rfl) ?_
  refine lv_iconst (v := 1) hx hb dX12_ruleLine_34 (by decide) ?_
  refine lv_iadd hx hb dX12_ruleLine_35 ?_
  refine lv_topi (fun z148 e149 => ?_)
  have t150 := ib_add e149 b69 (by decide : Bd 1 (1) (1)) (by decide) (by decide)
  have b151 : Bd z148 (97) (117) := ib_addb t150 b69 (by decide : Bd 1 (1) (1))
  have t150 : z148.toInt = z66.toInt + 1 := fold_add t150 rfl (by decide)
  refine lv_aload_n hx hb dX12_ruleLine_36 rfl (lv_at hl 1 rfl) ?_
  refine lv_aload_n hx hb dX12_ruleLine_37 rfl (lv_at hl 1 rfl) ?_
  refine xget E hQ 0 (by decide) c143 rfl 20 (by decide) q1488 rfl dX12_ruleLine_38 ?_
  refine lv_iload_n hx hb dX12_ruleLine_41 rfl (lv_at hl 0 rfl) ?_
  have c152 : S114 10 = .inl (g.2 0, 120, .inl (upd f106 (z66 : Int32).toNatClampNeg r70)) := ((o114 10 (by decide)).trans c110)
  refine xiald E hQ 10 (by decide) c152 (ib_in b69 (by decide) (by decide)) dX12_ruleLine_42 ?_
  refine lv_topi (fun z153 e154 => ?_)
  refine lv_aload_n hx hb dX12_ruleLine_43 rfl (lv_at hl 1 rfl) ?_
  refine lv_iconst (v := 0) hx hb dX12_ruleLine_44 (by decide) ?_
  have c155 : S114 7 = .inl (g.2 0, 50, .inl f30) := ((o114 7 (by decide)).trans (up_ne eS109 (by decide) c104))
  refine xcVi E hs hQ hml hl.1 0 (gX12_hasRead_0 l g ad hD S114 hI ) mX12_hasRead q1697 (by decide) c143 rfl rfl ⟨(Nat.le_of_ble_eq_true rfl), (Nat.le_of_ble_eq_true rfl)⟩ ⟨(Nat.le_of_ble_eq_true rfl), (Nat.le_of_ble_eq_true rfl)⟩ (Nat.le_of_ble_eq_true rfl) rfl dX12_ruleLine_45 (fun r156 S156 H locs hp156 hQ _ => ?_)
  obtain ⟨rfl, b156, g156_0⟩ := hp156
  have q157 : elm (S114 7) 40 = v36.toInt := (elm_of c155 40).trans (congrArg Int32.toInt (ee37))
  have b158 : Bd r156 (1) (12) := ⟨by omega, (b156).2⟩
  refine lv_iconst (v := 1) hx hb dX12_ruleLine_48 (by decide) ?_
  refine lv_isub hx hb dX12_ruleLine_49 ?_
  refine lv_topi (fun z159 e160 => ?_)
  have t161 := ib_sub e160 b158 (by decide : Bd 1 (1) (1)) (by decide) (by decide)
  have b162 : Bd z159 (0) (11) := ib_subb t161 b158 (by decide : Bd 1 (1) (1))
  have t161 : z159.toInt = r156.toInt - 1 := fold_sub t161 rfl (by decide)
  refine xcVi E hs hQ hml hl.1 0 (gX12_number_9 l g ad hD S114 hI z153 z159 (ib_wk b162 (by decide) (by decide)) (by omega)) mX12_number q1676 (by decide) c143 rfl rfl ⟨(Nat.le_of_ble_eq_true rfl), (Nat.le_of_ble_eq_true rfl)⟩ ⟨(Nat.le_of_ble_eq_true rfl), (Nat.le_of_ble_eq_true rfl)⟩ (Nat.le_of_ble_eq_true rfl) rfl dX12_ruleLine_50 (fun r163 S163 H locs hp163 hQ _ => ?_)
  obtain ⟨hI, o163, g163_0, g163_1, g163_2⟩ := hp163
  obtain ⟨v164, v165, v167, v169, v171, v172, w173, v174, v176, v177, v178, v179, v181, v183, v185, v187, v189, v190, v191, c192, b166, b168, b170, b175, b180, b182, b184, b186, b188⟩ := invM_0 hI
  have c192 : S163 0 = .inr (12, [.int v164, .ref (ad 1), .ref (ad 2), .ref (ad 3), .ref (ad 4), .ref (ad 5), .int v165, .int v167, .int v169, .int v171, .int v172, .long w173, .int v174, .int v176, .int v177, .int v178, .ref (ad 6), .ref (ad 7), .ref (ad 8), .ref (ad 9), .ref (ad 10), .ref (ad 11), .ref (ad 12), .ref (ad 13), .ref (ad 14), .ref (ad 15), .int v179, .int v181, .ref (ad 16), .int v183, .int v185, .int v187, .int v189, .int v190, .ref (ad 17), .ref (ad 18), .int v191, .ref (ad 19)]) := c192
  have q193 : fld (S163 0) 6 = v165.toInt := fld_of c192 rfl
  have q194 : fld (S163 0) 7 = v167.toInt := fld_of c192 rfl
  have q195 : fld (S163 0) 8 = v169.toInt := fld_of c192 rfl
  have c196 : S163 10 = .inl (g.2 0, 120, .inl (upd f106 (z66 : Int32).toNatClampNeg r70)) := ((o163 10 (by decide)).trans c152)
  refine xiast E hs hQ 10 (by decide) c196 (ib_in b151 (by decide) (by decide)) dX12_ruleLine_53 (fun H locs S197 eS197 hQ => ?_)
  have hI := invM_up_10 hI eS197 ⟨_, rfl⟩
  have c198 : S197 10 = .inl (g.2 0, 120, .inl (upd (upd f106 (z66 : Int32).toNatClampNeg r70) (z148 : Int32).toNatClampNeg r163)) := up_at eS197 rfl
  refine lv_aload_n hx hb dX12_ruleLine_54 rfl (lv_at hl 1 rfl) ?_
  refine lv_ldc2 (v := 419) hx hb E.2.2.1 (E.2.2.2.1 _ q1725) dX12_ruleLine_55 ?_
  have c199 : S197 0 = .inr (12, [.int v164, .ref (ad 1), .ref (ad 2), .ref (ad 3), .ref (ad 4), .ref (ad 5), .int v165, .int v167, .int v169, .int v171, .int v172, .long w173, .int v174, .int v176, .int v177, .int v178, .ref (ad 6), .ref (ad 7), .ref (ad 8), .ref (ad 9), .ref (ad 10), .ref (ad 11), .ref (ad 12), .ref (ad 13), .ref (ad 14), .ref (ad 15), .int v179, .int v181, .ref (ad 16), .int v183, .int v185, .int v187, .int v189, .int v190, .ref (ad 17), .ref (ad 18), .int v191, .ref (ad 19)]) := (up_ne eS197 (by decide) c192)
  have q200 : fld (S197 0) 6 = v165.toInt := fld_of c199 rfl
  have q201 : fld (S197 0) 7 = v167.toInt := fld_of c199 rfl
  refine xcVv E hs hQ hml hl.1 0 (gX12_asks_0 l g ad hD S197 hI 419 (by omega)) mX12_asks q1655 (by decide) c199 rfl rfl ⟨(Nat.le_of_ble_eq_true rfl), (Nat.le_of_ble_eq_true rfl)⟩ ⟨(Nat.le_of_ble_eq_true rfl), (Nat.le_of_ble_eq_true rfl)⟩ (Nat.le_of_ble_eq_true rfl) rfl dX12_ruleLine_58 (fun S202 H locs hp202 hQ _ => ?_)
  obtain ⟨hI, o202, g202_0, g202_1, g202_2⟩ := hp202
  obtain ⟨v203, v204, v206, v208, v210, v211, w212, v213, v215, v216, v217, v218, v220, v222, v224, v226, v228, v229, v230, c231, b205, b207, b209, b214, b219, b221, b223, b225, b227⟩ := invM_0 hI
  have c231 : S202 0 = .inr (12, [.int v203, .ref (ad 1), .ref (ad 2), .ref (ad 3), .ref (ad 4), .ref (ad 5), .int v204, .int v206, .int v208, .int v210, .int v211, .long w212, .int v213, .int v215, .int v216, .int v217, .ref (ad 6), .ref (ad 7), .ref (ad 8), .ref (ad 9), .ref (ad 10), .ref (ad 11), .ref (ad 12), .ref (ad 13), .ref (ad 14), .ref (ad 15), .int v218, .int v220, .ref (ad 16), .int v222, .int v224, .int v226, .int v228, .int v229, .ref (ad 17), .ref (ad 18), .int v230, .ref (ad 19)]) := c231
  have q232 : fld (S202 0) 6 = v204.toInt := fld_of c231 rfl
  have q233 : fld (S202 0) 7 = v206.toInt := fld_of c231 rfl
  have q234 : fld (S197 0) 8 = v169.toInt := fld_of c199 rfl
  have q235 : fld (S202 0) 8 = v208.toInt := fld_of c231 rfl
  refine lv_aload_n hx hb dX12_ruleLine_61 rfl (lv_at hl 1 rfl) ?_
  refine xcVi E hs hQ hml hl.1 0 (gX12_phaseHere_0 l g ad hD S202 hI (by omega)) mX12_phaseHere q1726 (by decide) c231 rfl rfl ⟨(Nat.le_of_ble_eq_true rfl), (Nat.le_of_ble_eq_true rfl)⟩ ⟨(Nat.le_of_ble_eq_true rfl), (Nat.le_of_ble_eq_true rfl)⟩ (Nat.le_of_ble_eq_true rfl) rfl dX12_ruleLine_62 (fun r236 S236 H locs hp236 hQ _ => ?_)
  obtain ⟨hI, o236, b236, g236_0, g236_1, g236_2, g236_3⟩ := hp236
  obtain ⟨v237, v238, v240, v242, v244, v245, w246, v247, v249, v250, v251, v252, v254, v256, v258, v260, v262, v263, v264, c265, b239, b241, b243, b248, b253, b255, b257, b259, b261⟩ := invM_0 hI
  have c265 : S236 0 = .inr (12, [.int v237, .ref (ad 1), .ref (ad 2), .ref (ad 3), .ref (ad 4), .ref (ad 5), .int v238, .int v240, .int v242, .int v244, .int v245, .long w246, .int v247, .int v249, .int v250, .int v251, .ref (ad 6), .ref (ad 7), .ref (ad 8), .ref (ad 9), .ref (ad 10), .ref (ad 11), .ref (ad 12), .ref (ad 13), .ref (ad 14), .ref (ad 15), .int v252, .int v254, .ref (ad 16), .int v256, .int v258, .int v260, .int v262, .int v263, .ref (ad 17), .ref (ad 18), .int v264, .ref (ad 19)]) := c265
  have q266 : fld (S236 0) 6 = v238.toInt := fld_of c265 rfl
  have q267 : fld (S236 0) 7 = v240.toInt := fld_of c265 rfl
  have q268 : fld (S236 0) 8 = v242.toInt := fld_of c265 rfl
  refine lv_istore_n (lv' := [(2, .int r236), (1, .int z66), (0, .ref (ad 0))]) hx hb dX12_ruleLine_65 rfl hl (by decide) rfl (fun ls hl => ?_)
  refine lv_iload_n hx hb dX12_ruleLine_66 rfl (lv_at hl 0 rfl) ?_
  refine lv_if_ne (tgt := 75) hx hb dX12_ruleLine_67 (by decide) (fun k269 => ?_) (fun k269 => ?_)
  · have h270 := ib_ne k269
    have b271 : Bd r236 (1) (4) := rf_nlo b236 (by decide : Bd 0 (0) (0)) h270
    have g272 := g236_3.resolve_left (by omega)
    clear g236_3
    refine lv_aload_n hx hb dX12_ruleLine_75 rfl (lv_at hl 2 rfl) ?_
    refine xcVi E hs hQ hml hl.1 0 (gX12_phaseHere_0 l g ad hD S236 hI (by omega)) mX12_phaseHere q1726 (by decide) c265 rfl rfl ⟨(Nat.le_of_ble_eq_true rfl), (Nat.le_of_ble_eq_true rfl)⟩ ⟨(Nat.le_of_ble_eq_true rfl), (Nat.le_of_ble_eq_true rfl)⟩ (Nat.le_of_ble_eq_true rfl) rfl dX12_ruleLine_76 (fun r273 S273 H locs hp273 hQ _ => ?_)
    obtain ⟨hI, o273, b273, g273_0, g273_1, g273_2, g273_3⟩ := hp273
    obtain ⟨v274, v275, v277, v279, v281, v282, w283, v284, v286, v287, v288, v289, v291, v293, v295, v297, v299, v300, v301, c302, b276, b278, b280, b285, b290, b292, b294, b296, b298⟩ := invM_0 hI
    have c302 : S273 0 = .inr (12, [.int v274, .ref (ad 1), .ref (ad 2), .ref (ad 3), .ref (ad 4), .ref (ad 5), .int v275, .int v277, .int v279, .int v281, .int v282, .long w283, .int v284, .int v286, .int v287, .int v288, .ref (ad 6), .ref (ad 7), .ref (ad 8), .ref (ad 9), .ref (ad 10), .ref (ad 11), .ref (ad 12), .ref (ad 13), .ref (ad 14), .ref (ad 15), .int v289, .int v291, .ref (ad 16), .int v293, .int v295, .int v297, .int v299, .int v300, .ref (ad 17), .ref (ad 18), .int v301, .ref (ad 19)]) := c302
    have q303 : fld (S273 0) 6 = v275.toInt := fld_of c302 rfl
    have q304 : fld (S273 0) 7 = v277.toInt := fld_of c302 rfl
    have q305 : fld (S273 0) 8 = v279.toInt := fld_of c302 rfl
    refine lv_istore_n (lv' := [(3, .int r273), (2, .int r236), (1, .int z66), (0, .ref (ad 0))]) hx hb dX12_ruleLine_79 rfl hl (by decide) rfl (fun ls hl => ?_)
    have loop80 : ∀ (n : Nat) (S_80 : SS) (H : Heap) (locs : List Loc) (ls : Array Slot) (x80_2 : Int32) (x80_3 : Int32) (y80_0_0 : Int32) (y80_0_6 : Int32) (y80_0_7 : Int32) (y80_0_8 : Int32) (y80_0_9 : Int32) (y80_0_10 : Int32) (wy80_0_11 : Int64) (y80_0_12 : Int32) (y80_0_13 : Int32) (y80_0_14 : Int32) (y80_0_15 : Int32) (y80_0_26 : Int32) (y80_0_27 : Int32) (y80_0_29 : Int32) (y80_0_30 : Int32) (y80_0_31 : Int32) (y80_0_32 : Int32) (y80_0_33 : Int32) (y80_0_36 : Int32), Bd x80_3 (0) (4) → Bd y80_0_6 (0) (1200) → Bd y80_0_7 (0) (1200) → Bd y80_0_8 (0) (4) → Bd y80_0_12 (0) (3) → Bd y80_0_26 (0) (11) → Bd y80_0_27 (-1) (400) → Bd y80_0_29 (0) (2) → Bd y80_0_30 (0) (11) → Bd y80_0_31 (-1) (468) → 0 ≤ y80_0_6.toInt + (-1) * y80_0_7.toInt → 0 ≤ v2.toInt + (-1) * y80_0_6.toInt → 0 ≤ y80_0_6.toInt + (-1) * v2.toInt → 0 ≤ 4 * v2.toInt + (-4) * v4.toInt + v6.toInt + (-4) * y80_0_6.toInt + 4 * y80_0_7.toInt + (-1) * y80_0_8.toInt → 32 * y80_0_6.toInt + (-32) * y80_0_7.toInt + 8 * y80_0_8.toInt + x80_3.toInt < ((n : Nat) : Int) → InvM g ad S_80 → (∀ j, j ∉ ([0] : List Nat) → S_80 j = S273 j) → S_80 0 = .inr (12, [.int y80_0_0, .ref (ad 1), .ref (ad 2), .ref (ad 3), .ref (ad 4), .ref (ad 5), .int y80_0_6, .int y80_0_7, .int y80_0_8, .int y80_0_9, .int y80_0_10, .long wy80_0_11, .int y80_0_12, .int y80_0_13, .int y80_0_14, .int y80_0_15, .ref (ad 6), .ref (ad 7), .ref (ad 8), .ref (ad 9), .ref (ad 10), .ref (ad 11), .ref (ad 12), .ref (ad 13), .ref (ad 14), .ref (ad 15), .int y80_0_26, .int y80_0_27, .ref (ad 16), .int y80_0_29, .int y80_0_30, .int y80_0_31, .int y80_0_32, .int y80_0_33, .ref (ad 17), .ref (ad 18), .int y80_0_36, .ref (ad 19)]) → Hp g ad 20 S_80 (FA ad 20) s.heap H locs → lv_has ls 4 [(3, .int x80_3), (2, .int x80_2), (1, .int z66), (0, .ref (ad 0))] → W p l e (Rm 4) s m [.ref (ad 0)].toArray below meth c H locs 0 0 (MQ below (va_Qv (fun S' => InvM g ad S' ∧ (∀ j, j ∉ ([0, 7, 10] : List Nat) → S' j = S j) ∧ (0 ≤ fld (S' 0) 6 + (-1) * fld (S' 0) 7) ∧ (0 ≤ fld (S 0) 6 + (-1) * fld (S' 0) 6 ∧ 0 ≤ fld (S' 0) 6 + (-1) * fld (S 0) 6) ∧ (0 ≤ 4 * fld (S 0) 6 + (-4) * fld (S 0) 7 + fld (S 0) 8 + (-4) * fld (S' 0) 6 + 4 * fld (S' 0) 7 + (-1) * fld (S' 0) 8) ∧ (0 ≤ elm (S 7) 40 + (-1) * elm (S' 7) 40 ∧ 0 ≤ elm (S' 7) 40 + (-1) * elm (S 7) 40) ∧ (0 ≤ elm (S 7) 41 + (-1) * elm (S' 7) 41 ∧ 0 ≤ elm (S' 7) 41 + (-1) * elm (S 7) 41) ∧ (0 ≤ elm (S 7) 43 + (-1) * elm (S' 7) 43 ∧ 0 ≤ elm (S' 7) 43 + (-1) * elm (S 7) 43) ∧ (0 ≤ elm (S 7) 46 + (-1) * elm (S' 7) 46 ∧ 0 ≤ elm (S' 7) 46 + (-1) * elm (S 7) 46) ∧ (0 ≤ elm (S 7) 48 + (-1) * elm (S' 7) 48 ∧ 0 ≤ elm (S' 7) 48 + (-1) * elm (S 7) 48) ∧ (0 ≤ elm (S 7) 49 + (-1) * elm (S' 7) 49 ∧ 0 ≤ elm (S' 7) 49 + (-1) * elm (S 7) 49) ∧ EFp (S' 7) (S 7) 0 40) (QB g ad 20) (FA ad 20)) [.ref (ad 0)].toArray s 0 0 (FA ad 20)) (F0 m 80 ls []) := by
      intro n
      induction n with
      | zero => intro S_80 H locs ls x80_2 x80_3 y80_0_0 y80_0_6 y80_0_7 y80_0_8 y80_0_9 y80_0_10 wy80_0_11 y80_0_12 y80_0_13 y80_0_14 y80_0_15 y80_0_26 y80_0_27 y80_0_29 y80_0_30 y80_0_31 y80_0_32 y80_0_33 y80_0_36 Bx80_3 By80_0_6 By80_0_7 By80_0_8 By80_0_12 By80_0_26 By80_0_27 By80_0_29 By80_0_30 By80_0_31 C80_0 C80_1 C80_2 C80_3 hn80_ hI hf80 cl80_0 hQ hl; exfalso; omega
      | succ n80_ ih80 =>
        intro S_80 H locs ls x80_2 x80_3 y80_0_0 y80_0_6 y80_0_7 y80_0_8 y80_0_9 y80_0_10 wy80_0_11 y80_0_12 y80_0_13 y80_0_14 y80_0_15 y80_0_26 y80_0_27 y80_0_29 y80_0_30 y80_0_31 y80_0_32 y80_0_33 y80_0_36 Bx80_3 By80_0_6 By80_0_7 By80_0_8 By80_0_12 By80_0_26 By80_0_27 By80_0_29 By80_0_30 By80_0_31 C80_0 C80_1 C80_2 C80_3 hn80_ hI hf80 cl80_0 hQ hl
        refine lv_iload_n hx hb dX12_ruleLine_80 rfl (lv_at hl 0 rfl) ?_
        refine lv_if_eq (tgt := 96) hx hb dX12_ruleLine_81 (by decide) (fun k306 => ?_) (fun k306 => ?_)
        · have h307 := ib_eq k306
          have b308 : Bd x80_3 (0) (0) := ⟨(Bx80_3).1, ((rf_eq Bx80_3 (by decide : Bd 0 (0) (0)) h307).1).2⟩
          refine lv_aload_n hx hb dX12_ruleLine_96 rfl (lv_at hl 3 rfl) ?_
          refine xget E hQ 0 (by decide) cl80_0 rfl 20 (by decide) q1488 rfl dX12_ruleLine_97 ?_
          refine lv_iload_n hx hb dX12_ruleLine_100 rfl (lv_at hl 2 rfl) ?_
          refine lv_iconst (v := 2) hx hb dX12_ruleLine_101 (by decide) ?_
          refine lv_iadd hx hb dX12_ruleLine_102 ?_
          refine lv_topi (fun z309 e310 => ?_)
          have t311 := ib_add e310 b69 (by decide : Bd 2 (2) (2)) (by decide) (by decide)
          have b312 : Bd z309 (98) (118) := ib_addb t311 b69 (by decide : Bd 2 (2) (2))
          have t311 : z309.toInt = z66.toInt + 2 := fold_add t311 rfl (by decide)
          refine lv_iload_n hx hb dX12_ruleLine_103 rfl (lv_at hl 1 rfl) ?_
          have c313 : S_80 10 = .inl (g.2 0, 120, .inl (upd (upd f106 (z66 : Int32).toNatClampNeg r70) (z148 : Int32).toNatClampNeg r163)) := ((hf80 10 (by decide)).trans ((o273 10 (by decide)).trans ((o236 10 (by decide)).trans ((o202 10 (by decide)).trans c198))))
          refine xiast E hs hQ 10 (by decide) c313 (ib_in b312 (by decide) (by decide)) dX12_ruleLine_104 (fun H locs S314 eS314 hQ => ?_)
          have hI := invM_up_10 hI eS314 ⟨_, rfl⟩
          have c315 : S314 10 = .inl (g.2 0, 120, .inl (upd (upd (upd f106 (z66 : Int32).toNatClampNeg r70) (z148 : Int32).toNatClampNeg r163) (z309 : Int32).toNatClampNeg x80_2)) := up_at eS314 rfl
          refine lv_aload_n hx hb dX12_ruleLine_105 rfl (lv_at hl 3 rfl) ?_
          refine lv_ldc2 (v := 555) hx hb E.2.2.1 (E.2.2.2.1 _ q1724) dX12_ruleLine_106 ?_
          have c316 : S314 0 = .inr (12, [.int y80_0_0, .ref (ad 1), .ref (ad 2), .ref (ad 3), .ref (ad 4), .ref (ad 5), .int y80_0_6, .int y80_0_7, .int y80_0_8, .int y80_0_9, .int y80_0_10, .long wy80_0_11, .int y80_0_12, .int y80_0_13, .int y80_0_14, .int y80_0_15, .ref (ad 6), .ref (ad 7), .ref (ad 8), .ref (ad 9), .ref (ad 10), .ref (ad 11), .ref (ad 12), .ref (ad 13), .ref (ad 14), .ref (ad 15), .int y80_0_26, .int y80_0_27, .ref (ad 16), .int y80_0_29, .int y80_0_30, .int y80_0_31, .int y80_0_32, .int y80_0_33, .ref (ad 17), .ref (ad 18), .int y80_0_36, .ref (ad 19)]) := (up_ne eS314 (by decide) cl80_0)
          have q317 : fld (S314 0) 6 = y80_0_6.toInt := fld_of c316 rfl
          have q318 : fld (S314 0) 7 = y80_0_7.toInt := fld_of c316 rfl
          refine xcVv E hs hQ hml hl.1 0 (gX12_asks_0 l g ad hD S314 hI 555 (by omega)) mX12_asks q1655 (by decide) c316 rfl rfl ⟨(Nat.le_of_ble_eq_true rfl), (Nat.le_of_ble_eq_true rfl)⟩ ⟨(Nat.le_of_ble_eq_true rfl), (Nat.le_of_ble_eq_true rfl)⟩ (Nat.le_of_ble_eq_true rfl) rfl dX12_ruleLine_109 (fun S319 H locs hp319 hQ _ => ?_)
          obtain ⟨hI, o319, g319_0, g319_1, g319_2⟩ := hp319
          obtain ⟨v320, v321, v323, v325, v327, v328, w329, v330, v332, v333, v334, v335, v337, v339, v341, v343, v345, v346, v347, c348, b322, b324, b326, b331, b336, b338, b340, b342, b344⟩ := invM_0 hI
          have c348 : S319 0 = .inr (12, [.int v320, .ref (ad 1), .ref (ad 2), .ref (ad 3), .ref (ad 4), .ref (ad 5), .int v321, .int v323, .int v325, .int v327, .int v328, .long w329, .int v330, .int v332, .int v333, .int v334, .ref (ad 6), .ref (ad 7), .ref (ad 8), .ref (ad 9), .ref (ad 10), .ref (ad 11), .ref (ad 12), .ref (ad 13), .ref (ad 14), .ref (ad 15), .int v335, .int v337, .ref (ad 16), .int v339, .int v341, .int v343, .int v345, .int v346, .ref (ad 17), .ref (ad 18), .int v347, .ref (ad 19)]) := c348
          have q349 : fld (S319 0) 6 = v321.toInt := fld_of c348 rfl
          have q350 : fld (S319 0) 7 = v323.toInt := fld_of c348 rfl
          have q351 : fld (S314 0) 8 = y80_0_8.toInt := fld_of c316 rfl
          have q352 : fld (S319 0) 8 = v325.toInt := fld_of c348 rfl
          refine lv_aload_n hx hb dX12_ruleLine_112 rfl (lv_at hl 3 rfl) ?_
          refine xget E hQ 0 (by decide) c348 rfl 20 (by decide) q1488 rfl dX12_ruleLine_113 ?_
          refine lv_iload_n hx hb dX12_ruleLine_116 rfl (lv_at hl 2 rfl) ?_
          refine lv_iconst (v := 3) hx hb dX12_ruleLine_117 (by decide) ?_
          refine lv_iadd hx hb dX12_ruleLine_118 ?_
          refine lv_topi (fun z353 e354 => ?_)
          have t355 := ib_add e354 b69 (by decide : Bd 3 (3) (3)) (by decide) (by decide)
          have b356 : Bd z353 (99) (119) := ib_addb t355 b69 (by decide : Bd 3 (3) (3))
          have t355 : z353.toInt = z66.toInt + 3 := fold_add t355 rfl (by decide)
          refine lv_aload_n hx hb dX12_ruleLine_119 rfl (lv_at hl 3 rfl) ?_
          refine lv_iconst (v := 0) hx hb dX12_ruleLine_120 (by decide) ?_
          refine lv_iconst (v := 5) hx hb dX12_ruleLine_121 (by decide) ?_
          refine xcVi E hs hQ hml hl.1 0 (gX12_number_7 l g ad hD S319 hI 0 5 (by decide : Bd 0 (0) (0)) (by decide : Bd 5 (5) (5)) (by omega)) mX12_number q1676 (by decide) c348 rfl rfl ⟨(Nat.le_of_ble_eq_true rfl), (Nat.le_of_ble_eq_true rfl)⟩ ⟨(Nat.le_of_ble_eq_true rfl), (Nat.le_of_ble_eq_true rfl)⟩ (Nat.le_of_ble_eq_true rfl) rfl dX12_ruleLine_122 (fun r357 S357 H locs hp357 hQ _ => ?_)
          obtain ⟨hI, o357, b357, g357_0, g357_1, g357_2⟩ := hp357
          obtain ⟨v358, v359, v361, v363, v365, v366, w367, v368, v370, v371, v372, v373, v375, v377, v379, v381, v383, v384, v385, c386, b360, b362, b364, b369, b374, b376, b378, b380, b382⟩ := invM_0 hI
          have c386 : S357 0 = .inr (12, [.int v358, .ref (ad 1), .ref (ad 2), .ref (ad 3), .ref (ad 4), .ref (ad 5), .int v359, .int v361, .int v363, .int v365, .int v366, .long w367, .int v368, .int v370, .int v371, .int v372, .ref (ad 6), .ref (ad 7), .ref (ad 8), .ref (ad 9), .ref (ad 10), .ref (ad 11), .ref (ad 12), .ref (ad 13), .ref (ad 14), .ref (ad 15), .int v373, .int v375, .ref (ad 16), .int v377, .int v379, .int v381, .int v383, .int v384, .ref (ad 17), .ref (ad 18), .int v385, .ref (ad 19)]) := c386
          have q387 : fld (S357 0) 6 = v359.toInt := fld_of c386 rfl
          have q388 : fld (S357 0) 7 = v361.toInt := fld_of c386 rfl
          have q389 : fld (S357 0) 8 = v363.toInt := fld_of c386 rfl
          have c390 : S357 10 = .inl (g.2 0, 120, .inl (upd (upd (upd f106 (z66 : Int32).toNatClampNeg r70) (z148 : Int32).toNatClampNeg r163) (z309 : Int32).toNatClampNeg x80_2)) := ((o357 10 (by decide)).trans ((o319 10 (by decide)).trans c315))
          refine xiast E hs hQ 10 (by decide) c390 (ib_in b356 (by decide) (by decide)) dX12_ruleLine_125 (fun H locs S391 eS391 hQ => ?_)
          have hI := invM_up_10 hI eS391 ⟨_, rfl⟩
          have c392 : S391 10 = .inl (g.2 0, 120, .inl (upd (upd (upd (upd f106 (z66 : Int32).toNatClampNeg r70) (z148 : Int32).toNatClampNeg r163) (z309 : Int32).toNatClampNeg x80_2) (z353 : Int32).toNatClampNeg r357)) := up_at eS391 rfl
          obtain ⟨f393, ef394⟩ : ∃ f : Nat → Int32, f = upd (upd (upd (upd f106 (z66 : Int32).toNatClampNeg r70) (z148 : Int32).toNatClampNeg r163) (z309 : Int32).toNatClampNeg x80_2) (z353 : Int32).toNatClampNeg r357 := ⟨_, rfl⟩
          have c395 : S391 10 = .inl (g.2 0, 120, .inl f393) := by rw [ef394]; exact c392
          refine lv_aload_n hx hb dX12_ruleLine_126 rfl (lv_at hl 3 rfl) ?_
          refine lv_bipush (v := 7) hx hb dX12_ruleLine_127 (by decide) ?_
          refine lv_aload_n hx hb dX12_ruleLine_129 rfl (lv_at hl 3 rfl) ?_
          refine lv_bipush (v := 7) hx hb dX12_ruleLine_130 (by decide) ?_
          have c396 : S391 7 = .inl (g.2 0, 50, .inl f30) := (up_ne eS391 (by decide) ((o357 7 (by decide)).trans ((o319 7 (by decide)).trans (up_ne eS314 (by decide) ((hf80 7 (by decide)).trans ((o273 7 (by decide)).trans ((o236 7 (by decide)).trans ((o202 7 (by decide)).trans (up_ne eS197 (by decide) ((o163 7 (by decide)).trans c155))))))))))
          have c398 : S391 0 = .inr (12, [.int v358, .ref (ad 1), .ref (ad 2), .ref (ad 3), .ref (ad 4), .ref (ad 5), .int v359, .int v361, .int v363, .int v365, .int v366, .long w367, .int v368, .int v370, .int v371, .int v372, .ref (ad 6), .ref (ad 7), .ref (ad 8), .ref (ad 9), .ref (ad 10), .ref (ad 11), .ref (ad 12), .ref (ad 13), .ref (ad 14), .ref (ad 15), .int v373, .int v375, .ref (ad 16), .int v377, .int v379, .int v381, .int v383, .int v384, .ref (ad 17), .ref (ad 18), .int v385, .ref (ad 19)]) := (up_ne eS391 (by decide) c386)
          refine xcVi E hs hQ hml hl.1 0 (gX12_hasRead_7 l g ad hD S391 hI ) mX12_hasRead q1697 (by decide) c398 rfl rfl ⟨(Nat.le_of_ble_eq_true rfl), (Nat.le_of_ble_eq_true rfl)⟩ ⟨(Nat.le_of_ble_eq_true rfl), (Nat.le_of_ble_eq_true rfl)⟩ (Nat.le_of_ble_eq_true rfl) rfl dX12_ruleLine_132 (fun r397 S397 H locs hp397 hQ _ => ?_)
          obtain ⟨rfl, b397, g397_0⟩ := hp397
          have q399 : elm (S391 7) 47 = v33.toInt := (elm_of c396 47).trans (congrArg Int32.toInt (ee34))
          have b400 : Bd r397 (0) (5) := ⟨(b397).1, by omega⟩
          refine lv_iconst (v := 1) hx hb dX12_ruleLine_135 (by decide) ?_
          refine lv_iadd hx hb dX12_ruleLine_136 ?_
          refine lv_topi (fun z401 e402 => ?_)
          have t403 := ib_add e402 b400 (by decide : Bd 1 (1) (1)) (by decide) (by decide)
          have b404 : Bd z401 (1) (6) := ib_addb t403 b400 (by decide : Bd 1 (1) (1))
          have t403 : z401.toInt = r397.toInt + 1 := fold_add t403 rfl (by decide)
          refine xcVv E hs hQ hml hl.1 0 (gX12_tells_7 l g ad hD S391 hI z401 (ib_wk b404 (by decide) (by decide))) mX12_tells q1629 (by decide) c398 rfl rfl ⟨(Nat.le_of_ble_eq_true rfl), (Nat.le_of_ble_eq_true rfl)⟩ ⟨(Nat.le_of_ble_eq_true rfl), (Nat.le_of_ble_eq_true rfl)⟩ (Nat.le_of_ble_eq_true rfl) rfl dX12_ruleLine_137 (fun S405 H locs hp405 hQ _ => ?_)
          obtain ⟨hI, o405, g405_0, g405_1, g405_2, g405_3, g405_4, g405_5, g405_6, ef405_7⟩ := hp405
          have ef406 : EFp (S405 7) (S 7) 0 40 := ef_tt ef405_7 (ef_tr ef7_0 ((up_eq (j := 7) eS391 (by decide)).trans ((o357 7 (by decide)).trans ((o319 7 (by decide)).trans ((up_eq (j := 7) eS314 (by decide)).trans ((hf80 7 (by decide)).trans ((o273 7 (by decide)).trans ((o236 7 (by decide)).trans ((o202 7 (by decide)).trans ((up_eq (j := 7) eS197 (by decide)).trans ((o163 7 (by decide)).trans ((o114 7 (by decide)).trans ((up_eq (j := 7) eS109 (by decide)).trans (o70 7 (by decide)))))))))))))))
          obtain ⟨f407, c408, b409⟩ := invM_7 hI
          obtain ⟨v410, ee411⟩ : ∃ z : Int32, f407 47 = z := ⟨_, rfl⟩
          have b412 : Bd v410 (0) (6) := (by rw [← ee411]; exact b409.2.2.2.2.2.1 47 (by decide))
          have q413 : elm (S405 7) 47 = v410.toInt := (elm_of c408 47).trans (congrArg Int32.toInt (ee411))
          have b414 : Bd v410 (1) (6) := ⟨by omega, (b412).2⟩
          have q415 : elm (S391 7) 40 = v36.toInt := (elm_of c396 40).trans (congrArg Int32.toInt (ee37))
          obtain ⟨v416, ee417⟩ : ∃ z : Int32, f407 40 = z := ⟨_, rfl⟩
          have b418 : Bd v416 (0) (12) := (by rw [← ee417]; exact b409.1 40 (by decide))
          have q419 : elm (S405 7) 40 = v416.toInt := (elm_of c408 40).trans (congrArg Int32.toInt (ee417))
          have b420 : Bd v416 (1) (12) := ⟨by omega, (b418).2⟩
          have q421 : elm (S391 7) 41 = v39.toInt := (elm_of c396 41).trans (congrArg Int32.toInt (ee40))
          obtain ⟨v422, ee423⟩ : ∃ z : Int32, f407 41 = z := ⟨_, rfl⟩
          have b424 : Bd v422 (0) (12) := (by rw [← ee423]; exact b409.2.1 41 (by decide))
          have q425 : elm (S405 7) 41 = v422.toInt := (elm_of c408 41).trans (congrArg Int32.toInt (ee423))
          have q426 : elm (S391 7) 43 = v42.toInt := (elm_of c396 43).trans (congrArg Int32.toInt (ee43))
          obtain ⟨v427, ee428⟩ : ∃ z : Int32, f407 43 = z := ⟨_, rfl⟩
          have b429 : Bd v427 (0) (12) := (by rw [← ee428]; exact b409.2.2.2.1 43 (by decide))
          have q430 : elm (S405 7) 43 = v427.toInt := (elm_of c408 43).trans (congrArg Int32.toInt (ee428))
          have q431 : elm (S391 7) 46 = v45.toInt := (elm_of c396 46).trans (congrArg Int32.toInt (ee46))
          obtain ⟨v432, ee433⟩ : ∃ z : Int32, f407 46 = z := ⟨_, rfl⟩
          have b434 : Bd v432 (0) (8) := (by rw [← ee433]; exact b409.2.2.2.2.1 46 (by decide))
          have q435 : elm (S405 7) 46 = v432.toInt := (elm_of c408 46).trans (congrArg Int32.toInt (ee433))
          have q436 : elm (S391 7) 48 = v48.toInt := (elm_of c396 48).trans (congrArg Int32.toInt (ee49))
          obtain ⟨v437, ee438⟩ : ∃ z : Int32, f407 48 = z := ⟨_, rfl⟩
          have b439 : Bd v437 (0) (3) := (by rw [← ee438]; exact b409.2.2.2.2.2.2.1 48 (by decide))
          have q440 : elm (S405 7) 48 = v437.toInt := (elm_of c408 48).trans (congrArg Int32.toInt (ee438))
          have q441 : elm (S391 7) 49 = v51.toInt := (elm_of c396 49).trans (congrArg Int32.toInt (ee52))
          obtain ⟨v442, ee443⟩ : ∃ z : Int32, f407 49 = z := ⟨_, rfl⟩
          have b444 : Bd v442 (0) (40) := (by rw [← ee443]; exact b409.2.2.2.2.2.2.2 49 (by decide))
          have q445 : elm (S405 7) 49 = v442.toInt := (elm_of c408 49).trans (congrArg Int32.toInt (ee443))
          have c446 : S405 0 = .inr (12, [.int v358, .ref (ad 1), .ref (ad 2), .ref (ad 3), .ref (ad 4), .ref (ad 5), .int v359, .int v361, .int v363, .int v365, .int v366, .long w367, .int v368, .int v370, .int v371, .int v372, .ref (ad 6), .ref (ad 7), .ref (ad 8), .ref (ad 9), .ref (ad 10), .ref (ad 11), .ref (ad 12), .ref (ad 13), .ref (ad 14), .ref (ad 15), .int v373, .int v375, .ref (ad 16), .int v377, .int v379, .int v381, .int v383, .int v384, .ref (ad 17), .ref (ad 18), .int v385, .ref (ad 19)]) := ((o405 0 (by decide)).trans c398)
          have q447 : fld (S405 0) 6 = v359.toInt := fld_of c446 rfl
          have q448 : fld (S405 0) 7 = v361.toInt := fld_of c446 rfl
          have q449 : fld (S405 0) 8 = v363.toInt := fld_of c446 rfl
          have q450 : elm (S 7) 41 = v39.toInt := (elm_of c31 41).trans (congrArg Int32.toInt (ee40))
          have q451 : elm (S 7) 43 = v42.toInt := (elm_of c31 43).trans (congrArg Int32.toInt (ee43))
          have q452 : elm (S 7) 46 = v45.toInt := (elm_of c31 46).trans (congrArg Int32.toInt (ee46))
          have q453 : elm (S 7) 48 = v48.toInt := (elm_of c31 48).trans (congrArg Int32.toInt (ee49))
          have q454 : elm (S 7) 49 = v51.toInt := (elm_of c31 49).trans (congrArg Int32.toInt (ee52))
          exact xrv E hr hlk hQ (⟨hI, (o_trans (up_o (o_trans (o_trans (up_o (o_trans (o_trans (o_trans (o_trans (up_o (o_trans (o_trans (up_o (o_trans o_refl o70 (by decide)) eS109 (by decide)) o114 (by decide)) o163 (by decide)) eS197 (by decide)) o202 (by decide)) o236 (by decide)) o273 (by decide)) hf80 (by decide)) eS314 (by decide)) o319 (by decide)) o357 (by decide)) eS391 (by decide)) o405 (by decide)), (by omega), ⟨by omega, by omega⟩, (by omega), ⟨by omega, by omega⟩, ⟨by omega, by omega⟩, ⟨by omega, by omega⟩, ⟨by omega, by omega⟩, ⟨by omega, by omega⟩, ⟨by omega, by omega⟩, ef406⟩) dX12_ruleLine_140
        · have h455 := ib_ne k306
          have b456 : Bd x80_3 (1) (4) := rf_nlo Bx80_3 (by decide : Bd 0 (0) (0)) h455
          refine lv_iload_n hx hb dX12_ruleLine_84 rfl (lv_at hl 1 rfl) ?_
          refine lv_iload_n hx hb dX12_ruleLine_85 rfl (lv_at hl 0 rfl) ?_
          refine lv_ior hx hb dX12_ruleLine_86 ?_
          refine lv_topi (fun z457 e458 => ?_)
          refine lv_istore_n (lv' := [(2, .int z457), (3, .int x80_3), (1, .int z66), (0, .ref (ad 0))]) hx hb dX12_ruleLine_87 rfl hl (by decide) rfl (fun ls hl => ?_)
          refine lv_aload_n hx hb dX12_ruleLine_88 rfl (lv_at hl 3 rfl) ?_
          have q459 : fld (S_80 0) 6 = y80_0_6.toInt := fld_of cl80_0 rfl
          have q460 : fld (S_80 0) 7 = y80_0_7.toInt := fld_of cl80_0 rfl
          refine xcVi E hs hQ hml hl.1 0 (gX12_phaseHere_0 l g ad hD S_80 hI (by omega)) mX12_phaseHere q1726 (by decide) cl80_0 rfl rfl ⟨(Nat.le_of_ble_eq_true rfl), (Nat.le_of_ble_eq_true rfl)⟩ ⟨(Nat.le_of_ble_eq_true rfl), (Nat.le_of_ble_eq_true rfl)⟩ (Nat.le_of_ble_eq_true rfl) rfl dX12_ruleLine_89 (fun r461 S461 H locs hp461 hQ _ => ?_)
          obtain ⟨hI, o461, b461, g461_0, g461_1, g461_2, g461_3⟩ := hp461
          obtain ⟨v462, v463, v465, v467, v469, v470, w471, v472, v474, v475, v476, v477, v479, v481, v483, v485, v487, v488, v489, c490, b464, b466, b468, b473, b478, b480, b482, b484, b486⟩ := invM_0 hI
          have c490 : S461 0 = .inr (12, [.int v462, .ref (ad 1), .ref (ad 2), .ref (ad 3), .ref (ad 4), .ref (ad 5), .int v463, .int v465, .int v467, .int v469, .int v470, .long w471, .int v472, .int v474, .int v475, .int v476, .ref (ad 6), .ref (ad 7), .ref (ad 8), .ref (ad 9), .ref (ad 10), .ref (ad 11), .ref (ad 12), .ref (ad 13), .ref (ad 14), .ref (ad 15), .int v477, .int v479, .ref (ad 16), .int v481, .int v483, .int v485, .int v487, .int v488, .ref (ad 17), .ref (ad 18), .int v489, .ref (ad 19)]) := c490
          have q491 : fld (S461 0) 6 = v463.toInt := fld_of c490 rfl
          have q492 : fld (S461 0) 7 = v465.toInt := fld_of c490 rfl
          have q493 : fld (S_80 0) 8 = y80_0_8.toInt := fld_of cl80_0 rfl
          have q494 : fld (S461 0) 8 = v467.toInt := fld_of c490 rfl
          refine lv_istore_n (lv' := [(3, .int r461), (2, .int z457), (1, .int z66), (0, .ref (ad 0))]) hx hb dX12_ruleLine_92 rfl hl (by decide) rfl (fun ls hl => ?_)
          refine lv_goto (tgt := 80) hx hb dX12_ruleLine_93 (by decide) ?_
          exact ih80 _ _ _ _ z457 r461 v462 v463 v465 v467 v469 v470 w471 v472 v474 v475 v476 v477 v479 v481 v483 v485 v487 v488 v489 b461 b464 b466 b468 b473 b478 b480 b482 b484 b486 (by omega) (by omega) (by omega) (by omega) (by omega) hI (o_trans hf80 o461 (by decide)) c490 hQ (lv_sub hl [0, 1, 2, 3] rfl)
    obtain ⟨n80, hn80⟩ := fu_n (32 * v275.toInt + (-32) * v277.toInt + 8 * v279.toInt + r273.toInt)
    exact loop80 n80 _ _ _ _ r236 r273 v274 v275 v277 v279 v281 v282 w283 v284 v286 v287 v288 v289 v291 v293 v295 v297 v299 v300 v301 b273 b276 b278 b280 b285 b290 b292 b294 b296 b298 (by omega) (by omega) (by omega) (by omega) (by omega) hI o_refl c302 hQ (lv_sub hl [0, 1, 2, 3] rfl)
  · have h495 := ib_eq k269
    have b496 : Bd r236 (0) (0) := ⟨(b236).1, ((rf_eq b236 (by decide : Bd 0 (0) (0)) h495).1).2⟩
    clear g236_3
    refine lv_aload_n hx hb dX12_ruleLine_70 rfl (lv_at hl 2 rfl) ?_
    refine lv_iconst (v := 1) hx hb dX12_ruleLine_71 (by decide) ?_
    refine xcVv E hs hQ hml hl.1 0 (gX12_fails_0 l g ad hD S236 hI 1 (ib_wk (by decide : Bd 1 (1) (1)) (by decide) (by decide))) mX12_fails q1667 (by decide) c265 rfl rfl ⟨(Nat.le_of_ble_eq_true rfl), (Nat.le_of_ble_eq_true rfl)⟩ ⟨(Nat.le_of_ble_eq_true rfl), (Nat.le_of_ble_eq_true rfl)⟩ (Nat.le_of_ble_eq_true rfl) rfl dX12_ruleLine_72 (fun S497 H locs hp497 hQ _ => ?_)
    obtain ⟨hI, o497, g497_0, g497_1, g497_2, g497_3⟩ := hp497
    obtain ⟨v498, v499, v501, v503, v505, v506, w507, v508, v510, v511, v512, v513, v515, v517, v519, v521, v523, v524, v525, c526, b500, b502, b504, b509, b514, b516, b518, b520, b522⟩ := invM_0 hI
    have c526 : S497 0 = .inr (12, [.int v498, .ref (ad 1), .ref (ad 2), .ref (ad 3), .ref (ad 4), .ref (ad 5), .int v499, .int v501, .int v503, .int v505, .int v506, .long w507, .int v508, .int v510, .int v511, .int v512, .ref (ad 6), .ref (ad 7), .ref (ad 8), .ref (ad 9), .ref (ad 10), .ref (ad 11), .ref (ad 12), .ref (ad 13), .ref (ad 14), .ref (ad 15), .int v513, .int v515, .ref (ad 16), .int v517, .int v519, .int v521, .int v523, .int v524, .ref (ad 17), .ref (ad 18), .int v525, .ref (ad 19)]) := c526
    have q527 : fld (S497 0) 12 = v508.toInt := fld_of c526 rfl
    have b528 : Bd v508 (1) (3) := ⟨by omega, (b509).2⟩
    have q529 : fld (S497 0) 6 = v499.toInt := fld_of c526 rfl
    have q530 : fld (S497 0) 7 = v501.toInt := fld_of c526 rfl
    have q531 : fld (S497 0) 8 = v503.toInt := fld_of c526 rfl
    refine lv_aload_n hx hb dX12_ruleLine_75 rfl (lv_at hl 2 rfl) ?_
    refine xcVi E hs hQ hml hl.1 0 (gX12_phaseHere_0 l g ad hD S497 hI (by omega)) mX12_phaseHere q1726 (by decide) c526 rfl rfl ⟨(Nat.le_of_ble_eq_true rfl), (Nat.le_of_ble_eq_true rfl)⟩ ⟨(Nat.le_of_ble_eq_true rfl), (Nat.le_of_ble_eq_true rfl)⟩ (Nat.le_of_ble_eq_true rfl) rfl dX12_ruleLine_76 (fun r532 S532 H locs hp532 hQ _ => ?_)
    obtain ⟨hI, o532, b532, g532_0, g532_1, g532_2, g532_3⟩ := hp532
    obtain ⟨v533, v534, v536, v538, v540, v541, w542, v543, v545, v546, v547, v548, v550, v552, v554, v556, v558, v559, v560, c561, b535, b537, b539, b544, b549, b551, b553, b555, b557⟩ := invM_0 hI
    have c561 : S532 0 = .inr (12, [.int v533, .ref (ad 1), .ref (ad 2), .ref (ad 3), .ref (ad 4), .ref (ad 5), .int v534, .int v536, .int v538, .int v540, .int v541, .long w542, .int v543, .int v545, .int v546, .int v547, .ref (ad 6), .ref (ad 7), .ref (ad 8), .ref (ad 9), .ref (ad 10), .ref (ad 11), .ref (ad 12), .ref (ad 13), .ref (ad 14), .ref (ad 15), .int v548, .int v550, .ref (ad 16), .int v552, .int v554, .int v556, .int v558, .int v559, .ref (ad 17), .ref (ad 18), .int v560, .ref (ad 19)]) := c561
    have q562 : fld (S532 0) 6 = v534.toInt := fld_of c561 rfl
    have q563 : fld (S532 0) 7 = v536.toInt := fld_of c561 rfl
    have q564 : fld (S532 0) 8 = v538.toInt := fld_of c561 rfl
    refine lv_istore_n (lv' := [(3, .int r532), (2, .int r236), (1, .int z66), (0, .ref (ad 0))]) hx hb dX12_ruleLine_79 rfl hl (by decide) rfl (fun ls hl => ?_)
    have loop80 : ∀ (n : Nat) (S_80 : SS) (H : Heap) (locs : List Loc) (ls : Array Slot) (x80_2 : Int32) (x80_3 : Int32) (y80_0_0 : Int32) (y80_0_6 : Int32) (y80_0_7 : Int32) (y80_0_8 : Int32) (y80_0_9 : Int32) (y80_0_10 : Int32) (wy80_0_11 : Int64) (y80_0_12 : Int32) (y80_0_13 : Int32) (y80_0_14 : Int32) (y80_0_15 : Int32) (y80_0_26 : Int32) (y80_0_27 : Int32) (y80_0_29 : Int32) (y80_0_30 : Int32) (y80_0_31 : Int32) (y80_0_32 : Int32) (y80_0_33 : Int32) (y80_0_36 : Int32), Bd x80_3 (0) (4) → Bd y80_0_6 (0) (1200) → Bd y80_0_7 (0) (1200) → Bd y80_0_8 (0) (4) → Bd y80_0_12 (0) (3) → Bd y80_0_26 (0) (11) → Bd y80_0_27 (-1) (400) → Bd y80_0_29 (0) (2) → Bd y80_0_30 (0) (11) → Bd y80_0_31 (-1) (468) → 0 ≤ y80_0_6.toInt + (-1) * y80_0_7.toInt → 0 ≤ v2.toInt + (-1) * y80_0_6.toInt → 0 ≤ y80_0_6.toInt + (-1) * v2.toInt → 0 ≤ 4 * v2.toInt + (-4) * v4.toInt + v6.toInt + (-4) * y80_0_6.toInt + 4 * y80_0_7.toInt + (-1) * y80_0_8.toInt → 32 * y80_0_6.toInt + (-32) * y80_0_7.toInt + 8 * y80_0_8.toInt + x80_3.toInt < ((n : Nat) : Int) → InvM g ad S_80 → (∀ j, j ∉ ([0] : List Nat) → S_80 j = S532 j) → S_80 0 = .inr (12, [.int y80_0_0, .ref (ad 1), .ref (ad 2), .ref (ad 3), .ref (ad 4), .ref (ad 5), .int y80_0_6, .int y80_0_7, .int y80_0_8, .int y80_0_9, .int y80_0_10, .long wy80_0_11, .int y80_0_12, .int y80_0_13, .int y80_0_14, .int y80_0_15, .ref (ad 6), .ref (ad 7), .ref (ad 8), .ref (ad 9), .ref (ad 10), .ref (ad 11), .ref (ad 12), .ref (ad 13), .ref (ad 14), .ref (ad 15), .int y80_0_26, .int y80_0_27, .ref (ad 16), .int y80_0_29, .int y80_0_30, .int y80_0_31, .int y80_0_32, .int y80_0_33, .ref (ad 17), .ref (ad 18), .int y80_0_36, .ref (ad 19)]) → Hp g ad 20 S_80 (FA ad 20) s.heap H locs → lv_has ls 4 [(3, .int x80_3), (2, .int x80_2), (1, .int z66), (0, .ref (ad 0))] → W p l e (Rm 4) s m [.ref (ad 0)].toArray below meth c H locs 0 0 (MQ below (va_Qv (fun S' => InvM g ad S' ∧ (∀ j, j ∉ ([0, 7, 10] : List Nat) → S' j = S j) ∧ (0 ≤ fld (S' 0) 6 + (-1) * fld (S' 0) 7) ∧ (0 ≤ fld (S 0) 6 + (-1) * fld (S' 0) 6 ∧ 0 ≤ fld (S' 0) 6 + (-1) * fld (S 0) 6) ∧ (0 ≤ 4 * fld (S 0) 6 + (-4) * fld (S 0) 7 + fld (S 0) 8 + (-4) * fld (S' 0) 6 + 4 * fld (S' 0) 7 + (-1) * fld (S' 0) 8) ∧ (0 ≤ elm (S 7) 40 + (-1) * elm (S' 7) 40 ∧ 0 ≤ elm (S' 7) 40 + (-1) * elm (S 7) 40) ∧ (0 ≤ elm (S 7) 41 + (-1) * elm (S' 7) 41 ∧ 0 ≤ elm (S' 7) 41 + (-1) * elm (S 7) 41) ∧ (0 ≤ elm (S 7) 43 + (-1) * elm (S' 7) 43 ∧ 0 ≤ elm (S' 7) 43 + (-1) * elm (S 7) 43) ∧ (0 ≤ elm (S 7) 46 + (-1) * elm (S' 7) 46 ∧ 0 ≤ elm (S' 7) 46 + (-1) * elm (S 7) 46) ∧ (0 ≤ elm (S 7) 48 + (-1) * elm (S' 7) 48 ∧ 0 ≤ elm (S' 7) 48 + (-1) * elm (S 7) 48) ∧ (0 ≤ elm (S 7) 49 + (-1) * elm (S' 7) 49 ∧ 0 ≤ elm (S' 7) 49 + (-1) * elm (S 7) 49) ∧ EFp (S' 7) (S 7) 0 40) (QB g ad 20) (FA ad 20)) [.ref (ad 0)].toArray s 0 0 (FA ad 20)) (F0 m 80 ls []) := by
      intro n
      induction n with
      | zero => intro S_80 H locs ls x80_2 x80_3 y80_0_0 y80_0_6 y80_0_7 y80_0_8 y80_0_9 y80_0_10 wy80_0_11 y80_0_12 y80_0_13 y80_0_14 y80_0_15 y80_0_26 y80_0_27 y80_0_29 y80_0_30 y80_0_31 y80_0_32 y80_0_33 y80_0_36 Bx80_3 By80_0_6 By80_0_7 By80_0_8 By80_0_12 By80_0_26 By80_0_27 By80_0_29 By80_0_30 By80_0_31 C80_0 C80_1 C80_2 C80_3 hn80_ hI hf80 cl80_0 hQ hl; exfalso; omega
      | succ n80_ ih80 =>
        intro S_80 H locs ls x80_2 x80_3 y80_0_0 y80_0_6 y80_0_7 y80_0_8 y80_0_9 y80_0_10 wy80_0_11 y80_0_12 y80_0_13 y80_0_14 y80_0_15 y80_0_26 y80_0_27 y80_0_29 y80_0_30 y80_0_31 y80_0_32 y80_0_33 y80_0_36 Bx80_3 By80_0_6 By80_0_7 By80_0_8 By80_0_12 By80_0_26 By80_0_27 By80_0_29 By80_0_30 By80_0_31 C80_0 C80_1 C80_2 C80_3 hn80_ hI hf80 cl80_0 hQ hl
        refine lv_iload_n hx hb dX12_ruleLine_80 rfl (lv_at hl 0 rfl) ?_
        refine lv_if_eq (tgt := 96) hx hb dX12_ruleLine_81 (by decide) (fun k565 => ?_) (fun k565 => ?_)
        · have h566 := ib_eq k565
          have b567 : Bd x80_3 (0) (0) := ⟨(Bx80_3).1, ((rf_eq Bx80_3 (by decide : Bd 0 (0) (0)) h566).1).2⟩
          refine lv_aload_n hx hb dX12_ruleLine_96 rfl (lv_at hl 3 rfl) ?_
          refine xget E hQ 0 (by decide) cl80_0 rfl 20 (by decide) q1488 rfl dX12_ruleLine_97 ?_
          refine lv_iload_n hx hb dX12_ruleLine_100 rfl (lv_at hl 2 rfl) ?_
          refine lv_iconst (v := 2) hx hb dX12_ruleLine_101 (by decide) ?_
          refine lv_iadd hx hb dX12_ruleLine_102 ?_
          refine lv_topi (fun z568 e569 => ?_)
          have t570 := ib_add e569 b69 (by decide : Bd 2 (2) (2)) (by decide) (by decide)
          have b571 : Bd z568 (98) (118) := ib_addb t570 b69 (by decide : Bd 2 (2) (2))
          have t570 : z568.toInt = z66.toInt + 2 := fold_add t570 rfl (by decide)
          refine lv_iload_n hx hb dX12_ruleLine_103 rfl (lv_at hl 1 rfl) ?_
          have c572 : S_80 10 = .inl (g.2 0, 120, .inl (upd (upd f106 (z66 : Int32).toNatClampNeg r70) (z148 : Int32).toNatClampNeg r163)) := ((hf80 10 (by decide)).trans ((o532 10 (by decide)).trans ((o497 10 (by decide)).trans ((o236 10 (by decide)).trans ((o202 10 (by decide)).trans c198)))))
          refine xiast E hs hQ 10 (by decide) c572 (ib_in b571 (by decide) (by decide)) dX12_ruleLine_104 (fun H locs S573 eS573 hQ => ?_)
          have hI := invM_up_10 hI eS573 ⟨_, rfl⟩
          have c574 : S573 10 = .inl (g.2 0, 120, .inl (upd (upd (upd f106 (z66 : Int32).toNatClampNeg r70) (z148 : Int32).toNatClampNeg r163) (z568 : Int32).toNatClampNeg x80_2)) := up_at eS573 rfl
          refine lv_aload_n hx hb dX12_ruleLine_105 rfl (lv_at hl 3 rfl) ?_
          refine lv_ldc2 (v := 555) hx hb E.2.2.1 (E.2.2.2.1 _ q1724) dX12_ruleLine_106 ?_
          have c575 : S573 0 = .inr (12, [.int y80_0_0, .ref (ad 1), .ref (ad 2), .ref (ad 3), .ref (ad 4), .ref (ad 5), .int y80_0_6, .int y80_0_7, .int y80_0_8, .int y80_0_9, .int y80_0_10, .long wy80_0_11, .int y80_0_12, .int y80_0_13, .int y80_0_14, .int y80_0_15, .ref (ad 6), .ref (ad 7), .ref (ad 8), .ref (ad 9), .ref (ad 10), .ref (ad 11), .ref (ad 12), .ref (ad 13), .ref (ad 14), .ref (ad 15), .int y80_0_26, .int y80_0_27, .ref (ad 16), .int y80_0_29, .int y80_0_30, .int y80_0_31, .int y80_0_32, .int y80_0_33, .ref (ad 17), .ref (ad 18), .int y80_0_36, .ref (ad 19)]) := (up_ne eS573 (by decide) cl80_0)
          have q576 : fld (S573 0) 6 = y80_0_6.toInt := fld_of c575 rfl
          have q577 : fld (S573 0) 7 = y80_0_7.toInt := fld_of c575 rfl
          refine xcVv E hs hQ hml hl.1 0 (gX12_asks_0 l g ad hD S573 hI 555 (by omega)) mX12_asks q1655 (by decide) c575 rfl rfl ⟨(Nat.le_of_ble_eq_true rfl), (Nat.le_of_ble_eq_true rfl)⟩ ⟨(Nat.le_of_ble_eq_true rfl), (Nat.le_of_ble_eq_true rfl)⟩ (Nat.le_of_ble_eq_true rfl) rfl dX12_ruleLine_109 (fun S578 H locs hp578 hQ _ => ?_)
          obtain ⟨hI, o578, g578_0, g578_1, g578_2⟩ := hp578
          obtain ⟨v579, v580, v582, v584, v586, v587, w588, v589, v591, v592, v593, v594, v596, v598, v600, v602, v604, v605, v606, c607, b581, b583, b585, b590, b595, b597, b599, b601, b603⟩ := invM_0 hI
          have c607 : S578 0 = .inr (12, [.int v579, .ref (ad 1), .ref (ad 2), .ref (ad 3), .ref (ad 4), .ref (ad 5), .int v580, .int v582, .int v584, .int v586, .int v587, .long w588, .int v589, .int v591, .int v592, .int v593, .ref (ad 6), .ref (ad 7), .ref (ad 8), .ref (ad 9), .ref (ad 10), .ref (ad 11), .ref (ad 12), .ref (ad 13), .ref (ad 14), .ref (ad 15), .int v594, .int v596, .ref (ad 16), .int v598, .int v600, .int v602, .int v604, .int v605, .ref (ad 17), .ref (ad 18), .int v606, .ref (ad 19)]) := c607
          have q608 : fld (S578 0) 6 = v580.toInt := fld_of c607 rfl
          have q609 : fld (S578 0) 7 = v582.toInt := fld_of c607 rfl
          have q610 : fld (S573 0) 8 = y80_0_8.toInt := fld_of c575 rfl
          have q611 : fld (S578 0) 8 = v584.toInt := fld_of c607 rfl
          refine lv_aload_n hx hb dX12_ruleLine_112 rfl (lv_at hl 3 rfl) ?_
          refine xget E hQ 0 (by decide) c607 rfl 20 (by decide) q1488 rfl dX12_ruleLine_113 ?_
          refine lv_iload_n hx hb dX12_ruleLine_116 rfl (lv_at hl 2 rfl) ?_
          refine lv_iconst (v := 3) hx hb dX12_ruleLine_117 (by decide) ?_
          refine lv_iadd hx hb dX12_ruleLine_118 ?_
          refine lv_topi (fun z612 e613 => ?_)
          have t614 := ib_add e613 b69 (by decide : Bd 3 (3) (3)) (by decide) (by decide)
          have b615 : Bd z612 (99) (119) := ib_addb t614 b69 (by decide : Bd 3 (3) (3))
          have t614 : z612.toInt = z66.toInt + 3 := fold_add t614 rfl (by decide)
          refine lv_aload_n hx hb dX12_ruleLine_119 rfl (lv_at hl 3 rfl) ?_
          refine lv_iconst (v := 0) hx hb dX12_ruleLine_120 (by decide) ?_
          refine lv_iconst (v := 5) hx hb dX12_ruleLine_121 (by decide) ?_
          refine xcVi E hs hQ hml hl.1 0 (gX12_number_7 l g ad hD S578 hI 0 5 (by decide : Bd 0 (0) (0)) (by decide : Bd 5 (5) (5)) (by omega)) mX12_number q1676 (by decide) c607 rfl rfl ⟨(Nat.le_of_ble_eq_true rfl), (Nat.le_of_ble_eq_true rfl)⟩ ⟨(Nat.le_of_ble_eq_true rfl), (Nat.le_of_ble_eq_true rfl)⟩ (Nat.le_of_ble_eq_true rfl) rfl dX12_ruleLine_122 (fun r616 S616 H locs hp616 hQ _ => ?_)
          obtain ⟨hI, o616, b616, g616_0, g616_1, g616_2⟩ := hp616
          obtain ⟨v617, v618, v620, v622, v624, v625, w626, v627, v629, v630, v631, v632, v634, v636, v638, v640, v642, v643, v644, c645, b619, b621, b623, b628, b633, b635, b637, b639, b641⟩ := invM_0 hI
          have c645 : S616 0 = .inr (12, [.int v617, .ref (ad 1), .ref (ad 2), .ref (ad 3), .ref (ad 4), .ref (ad 5), .int v618, .int v620, .int v622, .int v624, .int v625, .long w626, .int v627, .int v629, .int v630, .int v631, .ref (ad 6), .ref (ad 7), .ref (ad 8), .ref (ad 9), .ref (ad 10), .ref (ad 11), .ref (ad 12), .ref (ad 13), .ref (ad 14), .ref (ad 15), .int v632, .int v634, .ref (ad 16), .int v636, .int v638, .int v640, .int v642, .int v643, .ref (ad 17), .ref (ad 18), .int v644, .ref (ad 19)]) := c645
          have q646 : fld (S616 0) 6 = v618.toInt := fld_of c645 rfl
          have q647 : fld (S616 0) 7 = v620.toInt := fld_of c645 rfl
          have q648 : fld (S616 0) 8 = v622.toInt := fld_of c645 rfl
          have c649 : S616 10 = .inl (g.2 0, 120, .inl (upd (upd (upd f106 (z66 : Int32).toNatClampNeg r70) (z148 : Int32).toNatClampNeg r163) (z568 : Int32).toNatClampNeg x80_2)) := ((o616 10 (by decide)).trans ((o578 10 (by decide)).trans c574))
          refine xiast E hs hQ 10 (by decide) c649 (ib_in b615 (by decide) (by decide)) dX12_ruleLine_125 (fun H locs S650 eS650 hQ => ?_)
          have hI := invM_up_10 hI eS650 ⟨_, rfl⟩
          have c651 : S650 10 = .inl (g.2 0, 120, .inl (upd (upd (upd (upd f106 (z66 : Int32).toNatClampNeg r70) (z148 : Int32).toNatClampNeg r163) (z568 : Int32).toNatClampNeg x80_2) (z612 : Int32).toNatClampNeg r616)) := up_at eS650 rfl
          obtain ⟨f652, ef653⟩ : ∃ f : Nat → Int32, f = upd (upd (upd (upd f106 (z66 : Int32).toNatClampNeg r70) (z148 : Int32).toNatClampNeg r163) (z568 : Int32).toNatClampNeg x80_2) (z612 : Int32).toNatClampNeg r616 := ⟨_, rfl⟩
          have c654 : S650 10 = .inl (g.2 0, 120, .inl f652) := by rw [ef653]; exact c651
          refine lv_aload_n hx hb dX12_ruleLine_126 rfl (lv_at hl 3 rfl) ?_
          refine lv_bipush (v := 7) hx hb dX12_ruleLine_127 (by decide) ?_
          refine lv_aload_n hx hb dX12_ruleLine_129 rfl (lv_at hl 3 rfl) ?_
          refine lv_bipush (v := 7) hx hb dX12_ruleLine_130 (by decide) ?_
          have c655 : S650 7 = .inl (g.2 0, 50, .inl f30) := (up_ne eS650 (by decide) ((o616 7 (by decide)).trans ((o578 7 (by decide)).trans (up_ne eS573 (by decide) ((hf80 7 (by decide)).trans ((o532 7 (by decide)).trans ((o497 7 (by decide)).trans ((o236 7 (by decide)).trans ((o202 7 (by decide)).trans (up_ne eS197 (by decide) ((o163 7 (by decide)).trans c155)))))))))))
          have c657 : S650 0 = .inr (12, [.int v617, .ref (ad 1), .ref (ad 2), .ref (ad 3), .ref (ad 4), .ref (ad 5), .int v618, .int v620, .int v622, .int v624, .int v625, .long w626, .int v627, .int v629, .int v630, .int v631, .ref (ad 6), .ref (ad 7), .ref (ad 8), .ref (ad 9), .ref (ad 10), .ref (ad 11), .ref (ad 12), .ref (ad 13), .ref (ad 14), .ref (ad 15), .int v632, .int v634, .ref (ad 16), .int v636, .int v638, .int v640, .int v642, .int v643, .ref (ad 17), .ref (ad 18), .int v644, .ref (ad 19)]) := (up_ne eS650 (by decide) c645)
          refine xcVi E hs hQ hml hl.1 0 (gX12_hasRead_7 l g ad hD S650 hI ) mX12_hasRead q1697 (by decide) c657 rfl rfl ⟨(Nat.le_of_ble_eq_true rfl), (Nat.le_of_ble_eq_true rfl)⟩ ⟨(Nat.le_of_ble_eq_true rfl), (Nat.le_of_ble_eq_true rfl)⟩ (Nat.le_of_ble_eq_true rfl) rfl dX12_ruleLine_132 (fun r656 S656 H locs hp656 hQ _ => ?_)
          obtain ⟨rfl, b656, g656_0⟩ := hp656
          have q658 : elm (S650 7) 47 = v33.toInt := (elm_of c655 47).trans (congrArg Int32.toInt (ee34))
          have b659 : Bd r656 (0) (5) := ⟨(b656).1, by omega⟩
          refine lv_iconst (v := 1) hx hb dX12_ruleLine_135 (by decide) ?_
          refine lv_iadd hx hb dX12_ruleLine_136 ?_
          refine lv_topi (fun z660 e661 => ?_)
          have t662 := ib_add e661 b659 (by decide : Bd 1 (1) (1)) (by decide) (by decide)
          have b663 : Bd z660 (1) (6) := ib_addb t662 b659 (by decide : Bd 1 (1) (1))
          have t662 : z660.toInt = r656.toInt + 1 := fold_add t662 rfl (by decide)
          refine xcVv E hs hQ hml hl.1 0 (gX12_tells_7 l g ad hD S650 hI z660 (ib_wk b663 (by decide) (by decide))) mX12_tells q1629 (by decide) c657 rfl rfl ⟨(Nat.le_of_ble_eq_true rfl), (Nat.le_of_ble_eq_true rfl)⟩ ⟨(Nat.le_of_ble_eq_true rfl), (Nat.le_of_ble_eq_true rfl)⟩ (Nat.le_of_ble_eq_true rfl) rfl dX12_ruleLine_137 (fun S664 H locs hp664 hQ _ => ?_)
          obtain ⟨hI, o664, g664_0, g664_1, g664_2, g664_3, g664_4, g664_5, g664_6, ef664_7⟩ := hp664
          have ef665 : EFp (S664 7) (S 7) 0 40 := ef_tt ef664_7 (ef_tr ef7_0 ((up_eq (j := 7) eS650 (by decide)).trans ((o616 7 (by decide)).trans ((o578 7 (by decide)).trans ((up_eq (j := 7) eS573 (by decide)).trans ((hf80 7 (by decide)).trans ((o532 7 (by decide)).trans ((o497 7 (by decide)).trans ((o236 7 (by decide)).trans ((o202 7 (by decide)).trans ((up_eq (j := 7) eS197 (by decide)).trans ((o163 7 (by decide)).trans ((o114 7 (by decide)).trans ((up_eq (j := 7) eS109 (by decide)).trans (o70 7 (by decide))))))))))))))))
          obtain ⟨f666, c667, b668⟩ := invM_7 hI
          obtain ⟨v669, ee670⟩ : ∃ z : Int32, f666 47 = z := ⟨_, rfl⟩
          have b671 : Bd v669 (0) (6) := (by rw [← ee670]; exact b668.2.2.2.2.2.1 47 (by decide))
          have q672 : elm (S664 7) 47 = v669.toInt := (elm_of c667 47).trans (congrArg Int32.toInt (ee670))
          have b673 : Bd v669 (1) (6) := ⟨by omega, (b671).2⟩
          have q674 : elm (S650 7) 40 = v36.toInt := (elm_of c655 40).trans (congrArg Int32.toInt (ee37))
          obtain ⟨v675, ee676⟩ : ∃ z : Int32, f666 40 = z := ⟨_, rfl⟩
          have b677 : Bd v675 (0) (12) := (by rw [← ee676]; exact b668.1 40 (by decide))
          have q678 : elm (S664 7) 40 = v675.toInt := (elm_of c667 40).trans (congrArg Int32.toInt (ee676))
          have b679 : Bd v675 (1) (12) := ⟨by omega, (b677).2⟩
          have q680 : elm (S650 7) 41 = v39.toInt := (elm_of c655 41).trans (congrArg Int32.toInt (ee40))
          obtain ⟨v681, ee682⟩ : ∃ z : Int32, f666 41 = z := ⟨_, rfl⟩
          have b683 : Bd v681 (0) (12) := (by rw [← ee682]; exact b668.2.1 41 (by decide))
          have q684 : elm (S664 7) 41 = v681.toInt := (elm_of c667 41).trans (congrArg Int32.toInt (ee682))
          have q685 : elm (S650 7) 43 = v42.toInt := (elm_of c655 43).trans (congrArg Int32.toInt (ee43))
          obtain ⟨v686, ee687⟩ : ∃ z : Int32, f666 43 = z := ⟨_, rfl⟩
          have b688 : Bd v686 (0) (12) := (by rw [← ee687]; exact b668.2.2.2.1 43 (by decide))
          have q689 : elm (S664 7) 43 = v686.toInt := (elm_of c667 43).trans (congrArg Int32.toInt (ee687))
          have q690 : elm (S650 7) 46 = v45.toInt := (elm_of c655 46).trans (congrArg Int32.toInt (ee46))
          obtain ⟨v691, ee692⟩ : ∃ z : Int32, f666 46 = z := ⟨_, rfl⟩
          have b693 : Bd v691 (0) (8) := (by rw [← ee692]; exact b668.2.2.2.2.1 46 (by decide))
          have q694 : elm (S664 7) 46 = v691.toInt := (elm_of c667 46).trans (congrArg Int32.toInt (ee692))
          have q695 : elm (S650 7) 48 = v48.toInt := (elm_of c655 48).trans (congrArg Int32.toInt (ee49))
          obtain ⟨v696, ee697⟩ : ∃ z : Int32, f666 48 = z := ⟨_, rfl⟩
          have b698 : Bd v696 (0) (3) := (by rw [← ee697]; exact b668.2.2.2.2.2.2.1 48 (by decide))
          have q699 : elm (S664 7) 48 = v696.toInt := (elm_of c667 48).trans (congrArg Int32.toInt (ee697))
          have q700 : elm (S650 7) 49 = v51.toInt := (elm_of c655 49).trans (congrArg Int32.toInt (ee52))
          obtain ⟨v701, ee702⟩ : ∃ z : Int32, f666 49 = z := ⟨_, rfl⟩
          have b703 : Bd v701 (0) (40) := (by rw [← ee702]; exact b668.2.2.2.2.2.2.2 49 (by decide))
          have q704 : elm (S664 7) 49 = v701.toInt := (elm_of c667 49).trans (congrArg Int32.toInt (ee702))
          have c705 : S664 0 = .inr (12, [.int v617, .ref (ad 1), .ref (ad 2), .ref (ad 3), .ref (ad 4), .ref (ad 5), .int v618, .int v620, .int v622, .int v624, .int v625, .long w626, .int v627, .int v629, .int v630, .int v631, .ref (ad 6), .ref (ad 7), .ref (ad 8), .ref (ad 9), .ref (ad 10), .ref (ad 11), .ref (ad 12), .ref (ad 13), .ref (ad 14), .ref (ad 15), .int v632, .int v634, .ref (ad 16), .int v636, .int v638, .int v640, .int v642, .int v643, .ref (ad 17), .ref (ad 18), .int v644, .ref (ad 19)]) := ((o664 0 (by decide)).trans c657)
          have q706 : fld (S664 0) 6 = v618.toInt := fld_of c705 rfl
          have q707 : fld (S664 0) 7 = v620.toInt := fld_of c705 rfl
          have q708 : fld (S664 0) 8 = v622.toInt := fld_of c705 rfl
          have q709 : elm (S 7) 41 = v39.toInt := (elm_of c31 41).trans (congrArg Int32.toInt (ee40))
          have q710 : elm (S 7) 43 = v42.toInt := (elm_of c31 43).trans (congrArg Int32.toInt (ee43))
          have q711 : elm (S 7) 46 = v45.toInt := (elm_of c31 46).trans (congrArg Int32.toInt (ee46))
          have q712 : elm (S 7) 48 = v48.toInt := (elm_of c31 48).trans (congrArg Int32.toInt (ee49))
          have q713 : elm (S 7) 49 = v51.toInt := (elm_of c31 49).trans (congrArg Int32.toInt (ee52))
          exact xrv E hr hlk hQ (⟨hI, (o_trans (up_o (o_trans (o_trans (up_o (o_trans (o_trans (o_trans (o_trans (o_trans (up_o (o_trans (o_trans (up_o (o_trans o_refl o70 (by decide)) eS109 (by decide)) o114 (by decide)) o163 (by decide)) eS197 (by decide)) o202 (by decide)) o236 (by decide)) o497 (by decide)) o532 (by decide)) hf80 (by decide)) eS573 (by decide)) o578 (by decide)) o616 (by decide)) eS650 (by decide)) o664 (by decide)), (by omega), ⟨by omega, by omega⟩, (by omega), ⟨by omega, by omega⟩, ⟨by omega, by omega⟩, ⟨by omega, by omega⟩, ⟨by omega, by omega⟩, ⟨by omega, by omega⟩, ⟨by omega, by omega⟩, ef665⟩) dX12_ruleLine_140
        · have h714 := ib_ne k565
          have b715 : Bd x80_3 (1) (4) := rf_nlo Bx80_3 (by decide : Bd 0 (0) (0)) h714
          refine lv_iload_n hx hb dX12_ruleLine_84 rfl (lv_at hl 1 rfl) ?_
          refine lv_iload_n hx hb dX12_ruleLine_85 rfl (lv_at hl 0 rfl) ?_
          refine lv_ior hx hb dX12_ruleLine_86 ?_
          refine lv_topi (fun z716 e717 => ?_)
          refine lv_istore_n (lv' := [(2, .int z716), (3, .int x80_3), (1, .int z66), (0, .ref (ad 0))]) hx hb dX12_ruleLine_87 rfl hl (by decide) rfl (fun ls hl => ?_)
          refine lv_aload_n hx hb dX12_ruleLine_88 rfl (lv_at hl 3 rfl) ?_
          have q718 : fld (S_80 0) 6 = y80_0_6.toInt := fld_of cl80_0 rfl
          have q719 : fld (S_80 0) 7 = y80_0_7.toInt := fld_of cl80_0 rfl
          refine xcVi E hs hQ hml hl.1 0 (gX12_phaseHere_0 l g ad hD S_80 hI (by omega)) mX12_phaseHere q1726 (by decide) cl80_0 rfl rfl ⟨(Nat.le_of_ble_eq_true rfl), (Nat.le_of_ble_eq_true rfl)⟩ ⟨(Nat.le_of_ble_eq_true rfl), (Nat.le_of_ble_eq_true rfl)⟩ (Nat.le_of_ble_eq_true rfl) rfl dX12_ruleLine_89 (fun r720 S720 H locs hp720 hQ _ => ?_)
          obtain ⟨hI, o720, b720, g720_0, g720_1, g720_2, g720_3⟩ := hp720
          obtain ⟨v721, v722, v724, v726, v728, v729, w730, v731, v733, v734, v735, v736, v738, v740, v742, v744, v746, v747, v748, c749, b723, b725, b727, b732, b737, b739, b741, b743, b745⟩ := invM_0 hI
          have c749 : S720 0 = .inr (12, [.int v721, .ref (ad 1), .ref (ad 2), .ref (ad 3), .ref (ad 4), .ref (ad 5), .int v722, .int v724, .int v726, .int v728, .int v729, .long w730, .int v731, .int v733, .int v734, .int v735, .ref (ad 6), .ref (ad 7), .ref (ad 8), .ref (ad 9), .ref (ad 10), .ref (ad 11), .ref (ad 12), .ref (ad 13), .ref (ad 14), .ref (ad 15), .int v736, .int v738, .ref (ad 16), .int v740, .int v742, .int v744, .int v746, .int v747, .ref (ad 17), .ref (ad 18), .int v748, .ref (ad 19)]) := c749
          have q750 : fld (S720 0) 6 = v722.toInt := fld_of c749 rfl
          have q751 : fld (S720 0) 7 = v724.toInt := fld_of c749 rfl
          have q752 : fld (S_80 0) 8 = y80_0_8.toInt := fld_of cl80_0 rfl
          have q753 : fld (S720 0) 8 = v726.toInt := fld_of c749 rfl
          refine lv_istore_n (lv' := [(3, .int r720), (2, .int z716), (1, .int z66), (0, .ref (ad 0))]) hx hb dX12_ruleLine_92 rfl hl (by decide) rfl (fun ls hl => ?_)
          refine lv_goto (tgt := 80) hx hb dX12_ruleLine_93 (by decide) ?_
          exact ih80 _ _ _ _ z716 r720 v721 v722 v724 v726 v728 v729 w730 v731 v733 v734 v735 v736 v738 v740 v742 v744 v746 v747 v748 b720 b723 b725 b727 b732 b737 b739 b741 b743 b745 (by omega) (by omega) (by omega) (by omega) (by omega) hI (o_trans hf80 o720 (by decide)) c749 hQ (lv_sub hl [0, 1, 2, 3] rfl)
    obtain ⟨n80, hn80⟩ := fu_n (32 * v534.toInt + (-32) * v536.toInt + 8 * v538.toInt + r532.toInt)
    exact loop80 n80 _ _ _ _ r236 r532 v533 v534 v536 v538 v540 v541 w542 v543 v545 v546 v547 v548 v550 v552 v554 v556 v558 v559 v560 b532 b535 b537 b539 b544 b549 b551 b553 b555 b557 (by omega) (by omega) (by omega) (by omega) (by omega) hI o_refl c561 hQ (lv_sub hl [0, 1, 2, 3] rfl)
set_option maxHeartbeats 4000000 in
set_option maxRecDepth 100000 in
theorem gX12_isRoom_6 (l : Launch) (g : GG) (ad : Nat → Nat) (hD : Dj ad 20) (S : SS) (hI : InvM g ad S) (a1 : Int32) (ba1 : Bd a1 (0) (1)) (hq1 : 0 ≤ fld (S 0) 6 + (-1) * fld (S 0) 7) : Met l yX12_isRoom (wG (.code yX12_isRoom cX12_isRoom 4 (some .boolean))) (Rm 2) (XPre g ad 20 S [.ref (ad 0), .int a1, .int 6, .int 8]) (va_Qi (fun r S' => InvM g ad S' ∧ (∀ j, j ∉ ([0] : List Nat) → S' j = S j) ∧ Bd r (0) (1) ∧ (0 ≤ fld (S' 0) 6 + (-1) * fld (S' 0) 7) ∧ (0 ≤ fld (S 0) 6 + (-1) * fld (S' 0) 6 ∧ 0 ≤ fld (S' 0) 6 + (-1) * fld (S 0) 6) ∧ (0 ≤ 4 * fld (S 0) 6 + (-4) * fld (S 0) 7 + fld (S 0) 8 + (-4) * fld (S' 0) 6 + 4 * fld (S' 0) 7 + (-1) * fld (S' 0) 8) ∧ ((r.toInt + (-1) < 0 ∨ (0 ≤ (-1) * elm (S' 7) 46 + 7)))) (QB g ad 20) (FA ad 20)) 0 0 (FA ad 20) := by
  refine xmet cX12_isRoom "EbbWreckModel" (by decide) rfl (Nat.le_of_ble_eq_true rfl) (fun p e s m below meth c E hr hlk hml hQ ls hl => ?_)
  have hx := E.1
  have hb := E.2.1
  have hs : Sp ad 20 (FA ad 20) := Sp.fa hD
  have hl : lv_has ls 4 [(0, .ref (ad 0)), (1, .int a1), (2, .int 6), (3, .int 8)] := hl
  obtain ⟨v1, v2, v4, v6, v8, v9, w10, v11, v13, v14, v15, v16, v18, v20, v22, v24, v26, v27, v28, c29, b3, b5, b7, b12, b17, b19, b21, b23, b25⟩ := invM_0 hI
  have c29 : S 0 = .inr (12, [.int v1, .ref (ad 1), .ref (ad 2), .ref (ad 3), .ref (ad 4), .ref (ad 5), .int v2, .int v4, .int v6, .int v8, .int v9, .long w10, .int v11, .int v13, .int v14, .int v15, .ref (ad 6), .ref (ad 7), .ref (ad 8), .ref (ad 9), .ref (ad 10), .ref (ad 11), .ref (ad 12), .ref (ad 13), .ref (ad 14), .ref (ad 15), .int v16, .int v18, .ref (ad 16), .int v20, .int v22, .int v24, .int v26, .int v27, .ref (ad 17), .ref (ad 18), .int v28, .ref (ad 19)]) := c29
  obtain ⟨f30, c31, b32⟩ := invM_7 hI
  obtain ⟨v33, ee34⟩ : ∃ z : Int32, f30 46 = z := ⟨_, rfl⟩
  have b35 : Bd v33 (0) (8) := (by rw [← ee34]; exact b32.2.2.2.2.1 46 (by decide))
  have q36 : fld (S 0) 6 = v2.toInt := fld_of c29 rfl
  have q37 : fld (S 0) 7 = v4.toInt := fld_of c29 rfl
  refine lv_iload_n hx hb dX12_isRoom_0 rfl (lv_at hl 1 rfl) ?_
  refine lv_if_eq (tgt := 18) hx hb dX12_isRoom_1 (by decide) (fun k38 => ?_) (fun k38 => ?_)
  · have h39 := ib_eq k38
    have b40 : Bd a1 (0) (0) := ⟨(ba1).1, ((rf_eq ba1 (by decide : Bd 0 (0) (0)) h39).1).2⟩
    refine lv_iload_n hx hb dX12_isRoom_18 rfl (lv_at hl 1 rfl) ?_
    refine lv_if_eq (tgt := 33) hx hb dX12_isRoom_19 (by decide) (fun k41 => ?_) (fun k41 => ?_)
    · have h42 := ib_eq k41
      refine lv_iload_n hx hb dX12_isRoom_33 rfl (lv_at hl 1 rfl) ?_
      refine lv_if_eq (tgt := 48) hx hb dX12_isRoom_34 (by decide) (fun k43 => ?_) (fun k43 => ?_)
      · have h44 := ib_eq k43
        refine lv_iconst (v := 0) hx hb dX12_isRoom_48 (by decide) ?_
        have q45 : fld (S 0) 8 = v6.toInt := fld_of c29 rfl
        have q46 : elm (S 7) 46 = v33.toInt := (elm_of c31 46).trans (congrArg Int32.toInt (ee34))
        have q47 : (0 : Int32).toInt = 0 := by decide
        exact xrz E hr hlk hQ rfl (⟨hI, o_refl, (ib_wk (by decide : Bd 0 (0) (0)) (by decide) (by decide)), (by omega), ⟨by omega, by omega⟩, (by omega), Or.inl (by omega)⟩) dX12_isRoom_49
      · have h48 := ib_ne k43
        exact absurd (Int.le_antisymm (Int.le_trans (b40).2 ((by decide : Bd 0 (0) (0))).1) (Int.le_trans ((by decide : Bd 0 (0) (0))).2 (b40).1)) h48
    · have h49 := ib_ne k41
      exact absurd (Int.le_antisymm (Int.le_trans (b40).2 ((by decide : Bd 0 (0) (0))).1) (Int.le_trans ((by decide : Bd 0 (0) (0))).2 (b40).1)) h49
  · have h50 := ib_ne k38
    have b51 : Bd a1 (1) (1) := rf_nlo ba1 (by decide : Bd 0 (0) (0)) h50
    refine lv_aload_n hx hb dX12_isRoom_4 rfl (lv_at hl 0 rfl) ?_
    refine lv_iload_n hx hb dX12_isRoom_5 rfl (lv_at hl 2 rfl) ?_
    refine xcVi E hs hQ hml hl.1 0 (gX12_hasRead_6 l g ad hD S hI ) mX12_hasRead q1697 (by decide) c29 rfl rfl ⟨(Nat.le_of_ble_eq_true rfl), (Nat.le_of_ble_eq_true rfl)⟩ ⟨(Nat.le_of_ble_eq_true rfl), (Nat.le_of_ble_eq_true rfl)⟩ (Nat.le_of_ble_eq_true rfl) rfl dX12_isRoom_6 (fun r52 S52 H locs hp52 hQ _ => ?_)
    obtain ⟨rfl, b52, g52_0⟩ := hp52
    have q53 : elm (S 7) 46 = v33.toInt := (elm_of c31 46).trans (congrArg Int32.toInt (ee34))
    refine lv_iload_n hx hb dX12_isRoom_9 rfl (lv_at hl 3 rfl) ?_
    refine lv_icmp_ne (tgt := 18) hx hb dX12_isRoom_10 (by decide) (fun k54 => ?_) (fun k54 => ?_)
    · have h55 := ib_ne k54
      have b56 : Bd r52 (0) (7) := rf_nhi b52 (by decide : Bd 8 (8) (8)) h55
      refine lv_iload_n hx hb dX12_isRoom_18 rfl (lv_at hl 1 rfl) ?_
      refine lv_if_eq (tgt := 33) hx hb dX12_isRoom_19 (by decide) (fun k57 => ?_) (fun k57 => ?_)
      · have h58 := ib_eq k57
        have b59 : Bd a1 (1) (0) := ⟨(b51).1, ((rf_eq b51 (by decide : Bd 0 (0) (0)) h58).1).2⟩
        exact absurd (Int.le_trans b59.1 b59.2) (by decide)
      · have h60 := ib_ne k57
        refine lv_aload_n hx hb dX12_isRoom_22 rfl (lv_at hl 0 rfl) ?_
        refine xget E hQ 0 (by decide) c29 rfl 12 (by decide) q1480 rfl dX12_isRoom_23 ?_
        refine lv_if_ne (tgt := 33) hx hb dX12_isRoom_26 (by decide) (fun k61 => ?_) (fun k61 => ?_)
        · have h62 := ib_ne k61
          have b63 : Bd v11 (1) (3) := rf_nlo b12 (by decide : Bd 0 (0) (0)) h62
          refine lv_iload_n hx hb dX12_isRoom_33 rfl (lv_at hl 1 rfl) ?_
          refine lv_if_eq (tgt := 48) hx hb dX12_isRoom_34 (by decide) (fun k64 => ?_) (fun k64 => ?_)
          · have h65 := ib_eq k64
            have b66 : Bd a1 (1) (0) := ⟨(b51).1, ((rf_eq b51 (by decide : Bd 0 (0) (0)) h65).1).2⟩
            exact absurd (Int.le_trans b66.1 b66.2) (by decide)
          · have h67 := ib_ne k64
            refine lv_aload_n hx hb dX12_isRoom_37 rfl (lv_at hl 0 rfl) ?_
            refine xget E hQ 0 (by decide) c29 rfl 12 (by decide) q1480 rfl dX12_isRoom_38 ?_
            refine lv_if_ne (tgt := 48) hx hb dX12_isRoom_41 (by decide) (fun k68 => ?_) (fun k68 => ?_)
            · have h69 := ib_ne k68
              refine lv_iconst (v := 0) hx hb dX12_isRoom_48 (by decide) ?_
              have q70 : fld (S 0) 8 = v6.toInt := fld_of c29 rfl
              have q71 : (0 : Int32).toInt = 0 := by decide
              exact xrz E hr hlk hQ rfl (⟨hI, o_refl, (ib_wk (by decide : Bd 0 (0) (0)) (by decide) (by decide)), (by omega), ⟨by omega, by omega⟩, (by omega), Or.inl (by omega)⟩) dX12_isRoom_49
            · have h72 := ib_eq k68
              have b73 : Bd v11 (1) (0) := ⟨(b63).1, ((rf_eq b63 (by decide : Bd 0 (0) (0)) h72).1).2⟩
              exact absurd (Int.le_trans b73.1 b73.2) (by decide)
        · have h74 := ib_eq k61
          have b75 : Bd v11 (0) (0) := ⟨(b12).1, ((rf_eq b12 (by decide : Bd 0 (0) (0)) h74).1).2⟩
          refine lv_aload_n hx hb dX12_isRoom_29 rfl (lv_at hl 0 rfl) ?_
          refine xcVv E hs hQ hml hl.1 0 (gX12_next_0 l g ad hD S hI (by omega)) mX12_next q1637 (by decide) c29 rfl rfl ⟨(Nat.le_of_ble_eq_true rfl), (Nat.le_of_ble_eq_true rfl)⟩ ⟨(Nat.le_of_ble_eq_true rfl), (Nat.le_of_ble_eq_true rfl)⟩ (Nat.le_of_ble_eq_true rfl) rfl dX12_isRoom_30 (fun S76 H locs hp76 hQ _ => ?_)
          obtain ⟨hI, o76, g76_0, g76_1, g76_2, g76_3, g76_4⟩ := hp76
          obtain ⟨v77, v78, v80, v82, v84, v85, w86, v87, v89, v90, v91, v92, v94, v96, v98, v100, v102, v103, v104, c105, b79, b81, b83, b88, b93, b95, b97, b99, b101⟩ := invM_0 hI
          have c105 : S76 0 = .inr (12, [.int v77, .ref (ad 1), .ref (ad 2), .ref (ad 3), .ref (ad 4), .ref (ad 5), .int v78, .int v80, .int v82, .int v84, .int v85, .long w86, .int v87, .int v89, .int v90, .int v91, .ref (ad 6), .ref (ad 7), .ref (ad 8), .ref (ad 9), .ref (ad 10), .ref (ad 11), .ref (ad 12), .ref (ad 13), .ref (ad 14), .ref (ad 15), .int v92, .int v94, .ref (ad 16), .int v96, .int v98, .int v100, .int v102, .int v103, .ref (ad 17), .ref (ad 18), .int v104, .ref (ad 19)]) := c105
          have q106 : fld (S76 0) 6 = v78.toInt := fld_of c105 rfl
          have q107 : fld (S76 0) 7 = v80.toInt := fld_of c105 rfl
          have q108 : fld (S 0) 12 = v11.toInt := fld_of c29 rfl
          have q109 : fld (S76 0) 12 = v87.toInt := fld_of c105 rfl
          have b110 : Bd v87 (0) (0) := ⟨(b88).1, by omega⟩
          have q111 : fld (S76 0) 8 = v82.toInt := fld_of c105 rfl
          refine lv_iload_n hx hb dX12_isRoom_33 rfl (lv_at hl 1 rfl) ?_
          refine lv_if_eq (tgt := 48) hx hb dX12_isRoom_34 (by decide) (fun k112 => ?_) (fun k112 => ?_)
          · have h113 := ib_eq k112
            have b114 : Bd a1 (1) (0) := ⟨(b51).1, ((rf_eq b51 (by decide : Bd 0 (0) (0)) h113).1).2⟩
            exact absurd (Int.le_trans b114.1 b114.2) (by decide)
          · have h115 := ib_ne k112
            refine lv_aload_n hx hb dX12_isRoom_37 rfl (lv_at hl 0 rfl) ?_
            refine xget E hQ 0 (by decide) c105 rfl 12 (by decide) q1480 rfl dX12_isRoom_38 ?_
            refine lv_if_ne (tgt := 48) hx hb dX12_isRoom_41 (by decide) (fun k116 => ?_) (fun k116 => ?_)
            · have h117 := ib_ne k116
              exact absurd (Int.le_antisymm (Int.le_trans (b110).2 ((by decide : Bd 0 (0) (0))).1) (Int.le_trans ((by decide : Bd 0 (0) (0))).2 (b110).1)) h117
            · have h118 := ib_eq k116
              refine lv_iconst (v := 1) hx hb dX12_isRoom_44 (by decide) ?_
              refine lv_goto (tgt := 49) hx hb dX12_isRoom_45 (by decide) ?_
              have q119 : fld (S 0) 8 = v6.toInt := fld_of c29 rfl
              have c120 : S76 7 = .inl (g.2 0, 50, .inl f30) := ((o76 7 (by decide)).trans c31)
              have q121 : elm (S76 7) 46 = v33.toInt := (elm_of c120 46).trans (congrArg Int32.toInt (ee34))
              have q122 : (1 : Int32).toInt = 1 := by decide
              exact xrz E hr hlk hQ rfl (⟨hI, (o_trans o_refl o76 (by decide)), (ib_wk (by decide : Bd 1 (1) (1)) (by decide) (by decide)), (by omega), ⟨by omega, by omega⟩, (by omega), Or.inr (by omega)⟩) dX12_isRoom_49
    · have h123 := ib_eq k54
      have b124 : Bd r52 (8) (8) := ⟨((rf_eq b52 (by decide : Bd 8 (8) (8)) h123).1).1, (b52).2⟩
      refine lv_aload_n hx hb dX12_isRoom_13 rfl (lv_at hl 0 rfl) ?_
      refine lv_iconst (v := 3) hx hb dX12_isRoom_14 (by decide) ?_
      refine xcVv E hs hQ hml hl.1 0 (gX12_fails_0 l g ad hD S hI 3 (ib_wk (by decide : Bd 3 (3) (3)) (by decide) (by decide))) mX12_fails q1667 (by decide) c29 rfl rfl ⟨(Nat.le_of_ble_eq_true rfl), (Nat.le_of_ble_eq_true rfl)⟩ ⟨(Nat.le_of_ble_eq_true rfl), (Nat.le_of_ble_eq_true rfl)⟩ (Nat.le_of_ble_eq_true rfl) rfl dX12_isRoom_15 (fun S125 H locs hp125 hQ _ => ?_)
      obtain ⟨hI, o125, g125_0, g125_1, g125_2, g125_3⟩ := hp125
      obtain ⟨v126, v127, v129, v131, v133, v134, w135, v136, v138, v139, v140, v141, v143, v145, v147, v149, v151, v152, v153, c154, b128, b130, b132, b137, b142, b144, b146, b148, b150⟩ := invM_0 hI
      have c154 : S125 0 = .inr (12, [.int v126, .ref (ad 1), .ref (ad 2), .ref (ad 3), .ref (ad 4), .ref (ad 5), .int v127, .int v129, .int v131, .int v133, .int v134, .long w135, .int v136, .int v138, .int v139, .int v140, .ref (ad 6), .ref (ad 7), .ref (ad 8), .ref (ad 9), .ref (ad 10), .ref (ad 11), .ref (ad 12), .ref (ad 13), .ref (ad 14), .ref (ad 15), .int v141, .int v143, .ref (ad 16), .int v145, .int v147, .int v149, .int v151, .int v152, .ref (ad 17), .ref (ad 18), .int v153, .ref (ad 19)]) := c154
      have q155 : fld (S125 0) 12 = v136.toInt := fld_of c154 rfl
      have b156 : Bd v136 (1) (3) := ⟨by omega, (b137).2⟩
      have q157 : fld (S125 0) 6 = v127.toInt := fld_of c154 rfl
      have q158 : fld (S125 0) 7 = v129.toInt := fld_of c154 rfl
      have q159 : fld (S 0) 8 = v6.toInt := fld_of c29 rfl
      have q160 : fld (S125 0) 8 = v131.toInt := fld_of c154 rfl
      refine lv_iload_n hx hb dX12_isRoom_18 rfl (lv_at hl 1 rfl) ?_
      refine lv_if_eq (tgt := 33) hx hb dX12_isRoom_19 (by decide) (fun k161 => ?_) (fun k161 => ?_)
      · have h162 := ib_eq k161
        have b163 : Bd a1 (1) (0) := ⟨(b51).1, ((rf_eq b51 (by decide : Bd 0 (0) (0)) h162).1).2⟩
        exact absurd (Int.le_trans b163.1 b163.2) (by decide)
      · have h164 := ib_ne k161
        refine lv_aload_n hx hb dX12_isRoom_22 rfl (lv_at hl 0 rfl) ?_
        refine xget E hQ 0 (by decide) c154 rfl 12 (by decide) q1480 rfl dX12_isRoom_23 ?_
        refine lv_if_ne (tgt := 33) hx hb dX12_isRoom_26 (by decide) (fun k165 => ?_) (fun k165 => ?_)
        · have h166 := ib_ne k165
          refine lv_iload_n hx hb dX12_isRoom_33 rfl (lv_at hl 1 rfl) ?_
          refine lv_if_eq (tgt := 48) hx hb dX12_isRoom_34 (by decide) (fun k167 => ?_) (fun k167 => ?_)
          · have h168 := ib_eq k167
            have b169 : Bd a1 (1) (0) := ⟨(b51).1, ((rf_eq b51 (by decide : Bd 0 (0) (0)) h168).1).2⟩
            exact absurd (Int.le_trans b169.1 b169.2) (by decide)
          · have h170 := ib_ne k167
            refine lv_aload_n hx hb dX12_isRoom_37 rfl (lv_at hl 0 rfl) ?_
            refine xget E hQ 0 (by decide) c154 rfl 12 (by decide) q1480 rfl dX12_isRoom_38 ?_
            refine lv_if_ne (tgt := 48) hx hb dX12_isRoom_41 (by decide) (fun k171 => ?_) (fun k171 => ?_)
            · have h172 := ib_ne k171
              refine lv_iconst (v := 0) hx hb dX12_isRoom_48 (by decide) ?_
              have c173 : S125 7 = .inl (g.2 0, 50, .inl f30) := ((o125 7 (by decide)).trans c31)
              have q174 : elm (S125 7) 46 = v33.toInt := (elm_of c173 46).trans (congrArg Int32.toInt (ee34))
              have q175 : (0 : Int32).toInt = 0 := by decide
              exact xrz E hr hlk hQ rfl (⟨hI, (o_trans o_refl o125 (by decide)), (ib_wk (by decide : Bd 0 (0) (0)) (by decide) (by decide)), (by omega), ⟨by omega, by omega⟩, (by omega), Or.inl (by omega)⟩) dX12_isRoom_49
            · have h176 := ib_eq k171
              have b177 : Bd v136 (1) (0) := ⟨(b156).1, ((rf_eq b156 (by decide : Bd 0 (0) (0)) h176).1).2⟩
              exact absurd (Int.le_trans b177.1 b177.2) (by decide)
        · have h178 := ib_eq k165
          have b179 : Bd v136 (1) (0) := ⟨(b156).1, ((rf_eq b156 (by decide : Bd 0 (0) (0)) h178).1).2⟩
          exact absurd (Int.le_trans b179.1 b179.2) (by decide)
set_option maxHeartbeats 4000000 in
set_option maxRecDepth 100000 in
theorem gX12_isRoom_7 (l : Launch) (g : GG) (ad : Nat → Nat) (hD : Dj ad 20) (S : SS) (hI : InvM g ad S) (a1 : Int32) (ba1 : Bd a1 (0) (1)) (hq1 : 0 ≤ fld (S 0) 6 + (-1) * fld (S 0) 7) : Met l yX12_isRoom (wG (.code yX12_isRoom cX12_isRoom 4 (some .boolean))) (Rm 2) (XPre g ad 20 S [.ref (ad 0), .int a1, .int 7, .int 6]) (va_Qi (fun r S' => InvM g ad S' ∧ (∀ j, j ∉ ([0] : List Nat) → S' j = S j) ∧ Bd r (0) (1) ∧ (0 ≤ fld (S' 0) 6 + (-1) * fld (S' 0) 7) ∧ (0 ≤ fld (S 0) 6 + (-1) * fld (S' 0) 6 ∧ 0 ≤ fld (S' 0) 6 + (-1) * fld (S 0) 6) ∧ (0 ≤ 4 * fld (S 0) 6 + (-4) * fld (S 0) 7 + fld (S 0) 8 + (-4) * fld (S' 0) 6 + 4 * fld (S' 0) 7 + (-1) * fld (S' 0) 8) ∧ ((r.toInt + (-1) < 0 ∨ (0 ≤ (-1) * elm (S' 7) 47 + 5)))) (QB g ad 20) (FA ad 20)) 0 0 (FA ad 20) := by
  refine xmet cX12_isRoom "EbbWreckModel" (by decide) rfl (Nat.le_of_ble_eq_true rfl) (fun p e s m below meth c E hr hlk hml hQ ls hl => ?_)
  have hx := E.1
  have hb := E.2.1
  have hs : Sp ad 20 (FA ad 20) := Sp.fa hD
  have hl : lv_has ls 4 [(0, .ref (ad 0)), (1, .int a1), (2, .int 7), (3, .int 6)] := hl
  obtain ⟨v1, v2, v4, v6, v8, v9, w10, v11, v13, v14, v15, v16, v18, v20, v22, v24, v26, v27, v28, c29, b3, b5, b7, b12, b17, b19, b21, b23, b25⟩ := invM_0 hI
  have c29 : S 0 = .inr (12, [.int v1, .ref (ad 1), .ref (ad 2), .ref (ad 3), .ref (ad 4), .ref (ad 5), .int v2, .int v4, .int v6, .int v8, .int v9, .long w10, .int v11, .int v13, .int v14, .int v15, .ref (ad 6), .ref (ad 7), .ref (ad 8), .ref (ad 9), .ref (ad 10), .ref (ad 11), .ref (ad 12), .ref (ad 13), .ref (ad 14), .ref (ad 15), .int v16, .int v18, .ref (ad 16), .int v20, .int v22, .int v24, .int v26, .int v27, .ref (ad 17), .ref (ad 18), .int v28, .ref (ad 19)]) := c29
  obtain ⟨f30, c31, b32⟩ := invM_7 hI
  obtain ⟨v33, ee34⟩ : ∃ z : Int32, f30 47 = z := ⟨_, rfl⟩
  have b35 : Bd v33 (0) (6) := (by rw [← ee34]; exact b32.2.2.2.2.2.1 47 (by decide))
  have q36 : fld (S 0) 6 = v2.toInt := fld_of c29 rfl
  have q37 : fld (S 0) 7 = v4.toInt := fld_of c29 rfl
  refine lv_iload_n hx hb dX12_isRoom_0 rfl (lv_at hl 1 rfl) ?_
  refine lv_if_eq (tgt := 18) hx hb dX12_isRoom_1 (by decide) (fun k38 => ?_) (fun k38 => ?_)
  · have h39 := ib_eq k38
    have b40 : Bd a1 (0) (0) := ⟨(ba1).1, ((rf_eq ba1 (by decide : Bd 0 (0) (0)) h39).1).2⟩
    refine lv_iload_n hx hb dX12_isRoom_18 rfl (lv_at hl 1 rfl) ?_
    refine lv_if_eq (tgt := 33) hx hb dX12_isRoom_19 (by decide) (fun k41 => ?_) (fun k41 => ?_)
    · have h42 := ib_eq k41
      refine lv_iload_n hx hb dX12_isRoom_33 rfl (lv_at hl 1 rfl) ?_
      refine lv_if_eq (tgt := 48) hx hb dX12_isRoom_34 (by decide) (fun k43 => ?_) (fun k43 => ?_)
      · have h44 := ib_eq k43
        refine lv_iconst (v := 0) hx hb dX12_isRoom_48 (by decide) ?_
        have q45 : fld (S 0) 8 = v6.toInt := fld_of c29 rfl
        have q46 : elm (S 7) 47 = v33.toInt := (elm_of c31 47).trans (congrArg Int32.toInt (ee34))
        have q47 : (0 : Int32).toInt = 0 := by decide
        exact xrz E hr hlk hQ rfl (⟨hI, o_refl, (ib_wk (by decide : Bd 0 (0) (0)) (by decide) (by decide)), (by omega), ⟨by omega, by omega⟩, (by omega), Or.inl (by omega)⟩) dX12_isRoom_49
      · have h48 := ib_ne k43
        exact absurd (Int.le_antisymm (Int.le_trans (b40).2 ((by decide : Bd 0 (0) (0))).1) (Int.le_trans ((by decide : Bd 0 (0) (0))).2 (b40).1)) h48
    · have h49 := ib_ne k41
      exact absurd (Int.le_antisymm (Int.le_trans (b40).2 ((by decide : Bd 0 (0) (0))).1) (Int.le_trans ((by decide : Bd 0 (0) (0))).2 (b40).1)) h49
  · have h50 := ib_ne k38
    have b51 : Bd a1 (1) (1) := rf_nlo ba1 (by decide : Bd 0 (0) (0)) h50
    refine lv_aload_n hx hb dX12_isRoom_4 rfl (lv_at hl 0 rfl) ?_
    refine lv_iload_n hx hb dX12_isRoom_5 rfl (lv_at hl 2 rfl) ?_
    refine xcVi E hs hQ hml hl.1 0 (gX12_hasRead_7 l g ad hD S hI ) mX12_hasRead q1697 (by decide) c29 rfl rfl ⟨(Nat.le_of_ble_eq_true rfl), (Nat.le_of_ble_eq_true rfl)⟩ ⟨(Nat.le_of_ble_eq_true rfl), (Nat.le_of_ble_eq_true rfl)⟩ (Nat.le_of_ble_eq_true rfl) rfl dX12_isRoom_6 (fun r52 S52 H locs hp52 hQ _ => ?_)
    obtain ⟨rfl, b52, g52_0⟩ := hp52
    have q53 : elm (S 7) 47 = v33.toInt := (elm_of c31 47).trans (congrArg Int32.toInt (ee34))
    refine lv_iload_n hx hb dX12_isRoom_9 rfl (lv_at hl 3 rfl) ?_
    refine lv_icmp_ne (tgt := 18) hx hb dX12_isRoom_10 (by decide) (fun k54 => ?_) (fun k54 => ?_)
    · have h55 := ib_ne k54
      have b56 : Bd r52 (0) (5) := rf_nhi b52 (by decide : Bd 6 (6) (6)) h55
      refine lv_iload_n hx hb dX12_isRoom_18 rfl (lv_at hl 1 rfl) ?_
      refine lv_if_eq (tgt := 33) hx hb dX12_isRoom_19 (by decide) (fun k57 => ?_) (fun k57 => ?_)
      · have h58 := ib_eq k57
        have b59 : Bd a1 (1) (0) := ⟨(b51).1, ((rf_eq b51 (by decide : Bd 0 (0) (0)) h58).1).2⟩
        exact absurd (Int.le_trans b59.1 b59.2) (by decide)
      · have h60 := ib_ne k57
        refine lv_aload_n hx hb dX12_isRoom_22 rfl (lv_at hl 0 rfl) ?_
        refine xget E hQ 0 (by decide) c29 rfl 12 (by decide) q1480 rfl dX12_isRoom_23 ?_
        refine lv_if_ne (tgt := 33) hx hb dX12_isRoom_26 (by decide) (fun k61 => ?_) (fun k61 => ?_)
        · have h62 := ib_ne k61
          have b63 : Bd v11 (1) (3) := rf_nlo b12 (by decide : Bd 0 (0) (0)) h62
          refine lv_iload_n hx hb dX12_isRoom_33 rfl (lv_at hl 1 rfl) ?_
          refine lv_if_eq (tgt := 48) hx hb dX12_isRoom_34 (by decide) (fun k64 => ?_) (fun k64 => ?_)
          · have h65 := ib_eq k64
            have b66 : Bd a1 (1) (0) := ⟨(b51).1, ((rf_eq b51 (by decide : Bd 0 (0) (0)) h65).1).2⟩
            exact absurd (Int.le_trans b66.1 b66.2) (by decide)
          · have h67 := ib_ne k64
            refine lv_aload_n hx hb dX12_isRoom_37 rfl (lv_at hl 0 rfl) ?_
            refine xget E hQ 0 (by decide) c29 rfl 12 (by decide) q1480 rfl dX12_isRoom_38 ?_
            refine lv_if_ne (tgt := 48) hx hb dX12_isRoom_41 (by decide) (fun k68 => ?_) (fun k68 => ?_)
            · have h69 := ib_ne k68
              refine lv_iconst (v := 0) hx hb dX12_isRoom_48 (by decide) ?_
              have q70 : fld (S 0) 8 = v6.toInt := fld_of c29 rfl
              have q71 : (0 : Int32).toInt = 0 := by decide
              exact xrz E hr hlk hQ rfl (⟨hI, o_refl, (ib_wk (by decide : Bd 0 (0) (0)) (by decide) (by decide)), (by omega), ⟨by omega, by omega⟩, (by omega), Or.inl (by omega)⟩) dX12_isRoom_49
            · have h72 := ib_eq k68
              have b73 : Bd v11 (1) (0) := ⟨(b63).1, ((rf_eq b63 (by decide : Bd 0 (0) (0)) h72).1).2⟩
              exact absurd (Int.le_trans b73.1 b73.2) (by decide)
        · have h74 := ib_eq k61
          have b75 : Bd v11 (0) (0) := ⟨(b12).1, ((rf_eq b12 (by decide : Bd 0 (0) (0)) h74).1).2⟩
          refine lv_aload_n hx hb dX12_isRoom_29 rfl (lv_at hl 0 rfl) ?_
          refine xcVv E hs hQ hml hl.1 0 (gX12_next_0 l g ad hD S hI (by omega)) mX12_next q1637 (by decide) c29 rfl rfl ⟨(Nat.le_of_ble_eq_true rfl), (Nat.le_of_ble_eq_true rfl)⟩ ⟨(Nat.le_of_ble_eq_true rfl), (Nat.le_of_ble_eq_true rfl)⟩ (Nat.le_of_ble_eq_true rfl) rfl dX12_isRoom_30 (fun S76 H locs hp76 hQ _ => ?_)
          obtain ⟨hI, o76, g76_0, g76_1, g76_2, g76_3, g76_4⟩ := hp76
          obtain ⟨v77, v78, v80, v82, v84, v85, w86, v87, v89, v90, v91, v92, v94, v96, v98, v100, v102, v103, v104, c105, b79, b81, b83, b88, b93, b95, b97, b99, b101⟩ := invM_0 hI
          have c105 : S76 0 = .inr (12, [.int v77, .ref (ad 1), .ref (ad 2), .ref (ad 3), .ref (ad 4), .ref (ad 5), .int v78, .int v80, .int v82, .int v84, .int v85, .long w86, .int v87, .int v89, .int v90, .int v91, .ref (ad 6), .ref (ad 7), .ref (ad 8), .ref (ad 9), .ref (ad 10), .ref (ad 11), .ref (ad 12), .ref (ad 13), .ref (ad 14), .ref (ad 15), .int v92, .int v94, .ref (ad 16), .int v96, .int v98, .int v100, .int v102, .int v103, .ref (ad 17), .ref (ad 18), .int v104, .ref (ad 19)]) := c105
          have q106 : fld (S76 0) 6 = v78.toInt := fld_of c105 rfl
          have q107 : fld (S76 0) 7 = v80.toInt := fld_of c105 rfl
          have q108 : fld (S 0) 12 = v11.toInt := fld_of c29 rfl
          have q109 : fld (S76 0) 12 = v87.toInt := fld_of c105 rfl
          have b110 : Bd v87 (0) (0) := ⟨(b88).1, by omega⟩
          have q111 : fld (S76 0) 8 = v82.toInt := fld_of c105 rfl
          refine lv_iload_n hx hb dX12_isRoom_33 rfl (lv_at hl 1 rfl) ?_
          refine lv_if_eq (tgt := 48) hx hb dX12_isRoom_34 (by decide) (fun k112 => ?_) (fun k112 => ?_)
          · have h113 := ib_eq k112
            have b114 : Bd a1 (1) (0) := ⟨(b51).1, ((rf_eq b51 (by decide : Bd 0 (0) (0)) h113).1).2⟩
            exact absurd (Int.le_trans b114.1 b114.2) (by decide)
          · have h115 := ib_ne k112
            refine lv_aload_n hx hb dX12_isRoom_37 rfl (lv_at hl 0 rfl) ?_
            refine xget E hQ 0 (by decide) c105 rfl 12 (by decide) q1480 rfl dX12_isRoom_38 ?_
            refine lv_if_ne (tgt := 48) hx hb dX12_isRoom_41 (by decide) (fun k116 => ?_) (fun k116 => ?_)
            · have h117 := ib_ne k116
              exact absurd (Int.le_antisymm (Int.le_trans (b110).2 ((by decide : Bd 0 (0) (0))).1) (Int.le_trans ((by decide : Bd 0 (0) (0))).2 (b110).1)) h117
            · have h118 := ib_eq k116
              refine lv_iconst (v := 1) hx hb dX12_isRoom_44 (by decide) ?_
              refine lv_goto (tgt := 49) hx hb dX12_isRoom_45 (by decide) ?_
              have q119 : fld (S 0) 8 = v6.toInt := fld_of c29 rfl
              have c120 : S76 7 = .inl (g.2 0, 50, .inl f30) := ((o76 7 (by decide)).trans c31)
              have q121 : elm (S76 7) 47 = v33.toInt := (elm_of c120 47).trans (congrArg Int32.toInt (ee34))
              have q122 : (1 : Int32).toInt = 1 := by decide
              exact xrz E hr hlk hQ rfl (⟨hI, (o_trans o_refl o76 (by decide)), (ib_wk (by decide : Bd 1 (1) (1)) (by decide) (by decide)), (by omega), ⟨by omega, by omega⟩, (by omega), Or.inr (by omega)⟩) dX12_isRoom_49
    · have h123 := ib_eq k54
      have b124 : Bd r52 (6) (6) := ⟨((rf_eq b52 (by decide : Bd 6 (6) (6)) h123).1).1, (b52).2⟩
      refine lv_aload_n hx hb dX12_isRoom_13 rfl (lv_at hl 0 rfl) ?_
      refine lv_iconst (v := 3) hx hb dX12_isRoom_14 (by decide) ?_
      refine xcVv E hs hQ hml hl.1 0 (gX12_fails_0 l g ad hD S hI 3 (ib_wk (by decide : Bd 3 (3) (3)) (by decide) (by decide))) mX12_fails q1667 (by decide) c29 rfl rfl ⟨(Nat.le_of_ble_eq_true rfl), (Nat.le_of_ble_eq_true rfl)⟩ ⟨(Nat.le_of_ble_eq_true rfl), (Nat.le_of_ble_eq_true rfl)⟩ (Nat.le_of_ble_eq_true rfl) rfl dX12_isRoom_15 (fun S125 H locs hp125 hQ _ => ?_)
      obtain ⟨hI, o125, g125_0, g125_1, g125_2, g125_3⟩ := hp125
      obtain ⟨v126, v127, v129, v131, v133, v134, w135, v136, v138, v139, v140, v141, v143, v145, v147, v149, v151, v152, v153, c154, b128, b130, b132, b137, b142, b144, b146, b148, b150⟩ := invM_0 hI
      have c154 : S125 0 = .inr (12, [.int v126, .ref (ad 1), .ref (ad 2), .ref (ad 3), .ref (ad 4), .ref (ad 5), .int v127, .int v129, .int v131, .int v133, .int v134, .long w135, .int v136, .int v138, .int v139, .int v140, .ref (ad 6), .ref (ad 7), .ref (ad 8), .ref (ad 9), .ref (ad 10), .ref (ad 11), .ref (ad 12), .ref (ad 13), .ref (ad 14), .ref (ad 15), .int v141, .int v143, .ref (ad 16), .int v145, .int v147, .int v149, .int v151, .int v152, .ref (ad 17), .ref (ad 18), .int v153, .ref (ad 19)]) := c154
      have q155 : fld (S125 0) 12 = v136.toInt := fld_of c154 rfl
      have b156 : Bd v136 (1) (3) := ⟨by omega, (b137).2⟩
      have q157 : fld (S125 0) 6 = v127.toInt := fld_of c154 rfl
      have q158 : fld (S125 0) 7 = v129.toInt := fld_of c154 rfl
      have q159 : fld (S 0) 8 = v6.toInt := fld_of c29 rfl
      have q160 : fld (S125 0) 8 = v131.toInt := fld_of c154 rfl
      refine lv_iload_n hx hb dX12_isRoom_18 rfl (lv_at hl 1 rfl) ?_
      refine lv_if_eq (tgt := 33) hx hb dX12_isRoom_19 (by decide) (fun k161 => ?_) (fun k161 => ?_)
      · have h162 := ib_eq k161
        have b163 : Bd a1 (1) (0) := ⟨(b51).1, ((rf_eq b51 (by decide : Bd 0 (0) (0)) h162).1).2⟩
        exact absurd (Int.le_trans b163.1 b163.2) (by decide)
      · have h164 := ib_ne k161
        refine lv_aload_n hx hb dX12_isRoom_22 rfl (lv_at hl 0 rfl) ?_
        refine xget E hQ 0 (by decide) c154 rfl 12 (by decide) q1480 rfl dX12_isRoom_23 ?_
        refine lv_if_ne (tgt := 33) hx hb dX12_isRoom_26 (by decide) (fun k165 => ?_) (fun k165 => ?_)
        · have h166 := ib_ne k165
          refine lv_iload_n hx hb dX12_isRoom_33 rfl (lv_at hl 1 rfl) ?_
          refine lv_if_eq (tgt := 48) hx hb dX12_isRoom_34 (by decide) (fun k167 => ?_) (fun k167 => ?_)
          · have h168 := ib_eq k167
            have b169 : Bd a1 (1) (0) := ⟨(b51).1, ((rf_eq b51 (by decide : Bd 0 (0) (0)) h168).1).2⟩
            exact absurd (Int.le_trans b169.1 b169.2) (by decide)
          · have h170 := ib_ne k167
            refine lv_aload_n hx hb dX12_isRoom_37 rfl (lv_at hl 0 rfl) ?_
            refine xget E hQ 0 (by decide) c154 rfl 12 (by decide) q1480 rfl dX12_isRoom_38 ?_
            refine lv_if_ne (tgt := 48) hx hb dX12_isRoom_41 (by decide) (fun k171 => ?_) (fun k171 => ?_)
            · have h172 := ib_ne k171
              refine lv_iconst (v := 0) hx hb dX12_isRoom_48 (by decide) ?_
              have c173 : S125 7 = .inl (g.2 0, 50, .inl f30) := ((o125 7 (by decide)).trans c31)
              have q174 : elm (S125 7) 47 = v33.toInt := (elm_of c173 47).trans (congrArg Int32.toInt (ee34))
              have q175 : (0 : Int32).toInt = 0 := by decide
              exact xrz E hr hlk hQ rfl (⟨hI, (o_trans o_refl o125 (by decide)), (ib_wk (by decide : Bd 0 (0) (0)) (by decide) (by decide)), (by omega), ⟨by omega, by omega⟩, (by omega), Or.inl (by omega)⟩) dX12_isRoom_49
            · have h176 := ib_eq k171
              have b177 : Bd v136 (1) (0) := ⟨(b156).1, ((rf_eq b156 (by decide : Bd 0 (0) (0)) h176).1).2⟩
              exact absurd (Int.le_trans b177.1 b177.2) (by decide)
        · have h178 := ib_eq k165
          have b179 : Bd v136 (1) (0) := ⟨(b156).1, ((rf_eq b156 (by decide : Bd 0 (0) (0)) h178).1).2⟩
          exact absurd (Int.le_trans b179.1 b179.2) (by decide)
set_option maxHeartbeats 4000000 in
set_option maxRecDepth 100000 in
theorem gX12_isRoom_8 (l : Launch) (g : GG) (ad : Nat → Nat) (hD : Dj ad 20) (S : SS) (hI : InvM g ad S) (a1 : Int32) (ba1 : Bd a1 (0) (1)) (hq1 : 0 ≤ fld (S 0) 6 + (-1) * fld (S 0) 7) : Met l yX12_isRoom (wG (.code yX12_isRoom cX12_isRoom 4 (some .boolean))) (Rm 2) (XPre g ad 20 S [.ref (ad 0), .int a1, .int 8, .int 3]) (va_Qi (fun r S' => InvM g ad S' ∧ (∀ j, j ∉ ([0] : List Nat) → S' j = S j) ∧ Bd r (0) (1) ∧ (0 ≤ fld (S' 0) 6 + (-1) * fld (S' 0) 7) ∧ (0 ≤ fld (S 0) 6 + (-1) * fld (S' 0) 6 ∧ 0 ≤ fld (S' 0) 6 + (-1) * fld (S 0) 6) ∧ (0 ≤ 4 * fld (S 0) 6 + (-4) * fld (S 0) 7 + fld (S 0) 8 + (-4) * fld (S' 0) 6 + 4 * fld (S' 0) 7 + (-1) * fld (S' 0) 8) ∧ ((r.toInt + (-1) < 0 ∨ (0 ≤ (-1) * elm (S' 7) 48 + 2)))) (QB g ad 20) (FA ad 20)) 0 0 (FA ad 20) := by
  refine xmet cX12_isRoom "EbbWreckModel" (by decide) rfl (Nat.le_of_ble_eq_true rfl) (fun p e s m below meth c E hr hlk hml hQ ls hl => ?_)
  have hx := E.1
  have hb := E.2.1
  have hs : Sp ad 20 (FA ad 20) := Sp.fa hD
  have hl : lv_has ls 4 [(0, .ref (ad 0)), (1, .int a1), (2, .int 8), (3, .int 3)] := hl
  obtain ⟨v1, v2, v4, v6, v8, v9, w10, v11, v13, v14, v15, v16, v18, v20, v22, v24, v26, v27, v28, c29, b3, b5, b7, b12, b17, b19, b21, b23, b25⟩ := invM_0 hI
  have c29 : S 0 = .inr (12, [.int v1, .ref (ad 1), .ref (ad 2), .ref (ad 3), .ref (ad 4), .ref (ad 5), .int v2, .int v4, .int v6, .int v8, .int v9, .long w10, .int v11, .int v13, .int v14, .int v15, .ref (ad 6), .ref (ad 7), .ref (ad 8), .ref (ad 9), .ref (ad 10), .ref (ad 11), .ref (ad 12), .ref (ad 13), .ref (ad 14), .ref (ad 15), .int v16, .int v18, .ref (ad 16), .int v20, .int v22, .int v24, .int v26, .int v27, .ref (ad 17), .ref (ad 18), .int v28, .ref (ad 19)]) := c29
  obtain ⟨f30, c31, b32⟩ := invM_7 hI
  obtain ⟨v33, ee34⟩ : ∃ z : Int32, f30 48 = z := ⟨_, rfl⟩
  have b35 : Bd v33 (0) (3) := (by rw [← ee34]; exact b32.2.2.2.2.2.2.1 48 (by decide))
  have q36 : fld (S 0) 6 = v2.toInt := fld_of c29 rfl
  have q37 : fld (S 0) 7 = v4.toInt := fld_of c29 rfl
  refine lv_iload_n hx hb dX12_isRoom_0 rfl (lv_at hl 1 rfl) ?_
  refine lv_if_eq (tgt := 18) hx hb dX12_isRoom_1 (by decide) (fun k38 => ?_) (fun k38 => ?_)
  · have h39 := ib_eq k38
    have b40 : Bd a1 (0) (0) := ⟨(ba1).1, ((rf_eq ba1 (by decide : Bd 0 (0) (0)) h39).1).2⟩
    refine lv_iload_n hx hb dX12_isRoom_18 rfl (lv_at hl 1 rfl) ?_
    refine lv_if_eq (tgt := 33) hx hb dX12_isRoom_19 (by decide) (fun k41 => ?_) (fun k41 => ?_)
    · have h42 := ib_eq k41
      refine lv_iload_n hx hb dX12_isRoom_33 rfl (lv_at hl 1 rfl) ?_
      refine lv_if_eq (tgt := 48) hx hb dX12_isRoom_34 (by decide) (fun k43 => ?_) (fun k43 => ?_)
      · have h44 := ib_eq k43
        refine lv_iconst (v := 0) hx hb dX12_isRoom_48 (by decide) ?_
        have q45 : fld (S 0) 8 = v6.toInt := fld_of c29 rfl
        have q46 : elm (S 7) 48 = v33.toInt := (elm_of c31 48).trans (congrArg Int32.toInt (ee34))
        have q47 : (0 : Int32).toInt = 0 := by decide
        exact xrz E hr hlk hQ rfl (⟨hI, o_refl, (ib_wk (by decide : Bd 0 (0) (0)) (by decide) (by decide)), (by omega), ⟨by omega, by omega⟩, (by omega), Or.inl (by omega)⟩) dX12_isRoom_49
      · have h48 := ib_ne k43
        exact absurd (Int.le_antisymm (Int.le_trans (b40).2 ((by decide : Bd 0 (0) (0))).1) (Int.le_trans ((by decide : Bd 0 (0) (0))).2 (b40).1)) h48
    · have h49 := ib_ne k41
      exact absurd (Int.le_antisymm (Int.le_trans (b40).2 ((by decide : Bd 0 (0) (0))).1) (Int.le_trans ((by decide : Bd 0 (0) (0))).2 (b40).1)) h49
  · have h50 := ib_ne k38
    have b51 : Bd a1 (1) (1) := rf_nlo ba1 (by decide : Bd 0 (0) (0)) h50
    refine lv_aload_n hx hb dX12_isRoom_4 rfl (lv_at hl 0 rfl) ?_
    refine lv_iload_n hx hb dX12_isRoom_5 rfl (lv_at hl 2 rfl) ?_
    refine xcVi E hs hQ hml hl.1 0 (gX12_hasRead_8 l g ad hD S hI ) mX12_hasRead q1697 (by decide) c29 rfl rfl ⟨(Nat.le_of_ble_eq_true rfl), (Nat.le_of_ble_eq_true rfl)⟩ ⟨(Nat.le_of_ble_eq_true rfl), (Nat.le_of_ble_eq_true rfl)⟩ (Nat.le_of_ble_eq_true rfl) rfl dX12_isRoom_6 (fun r52 S52 H locs hp52 hQ _ => ?_)
    obtain ⟨rfl, b52, g52_0⟩ := hp52
    have q53 : elm (S 7) 48 = v33.toInt := (elm_of c31 48).trans (congrArg Int32.toInt (ee34))
    refine lv_iload_n hx hb dX12_isRoom_9 rfl (lv_at hl 3 rfl) ?_
    refine lv_icmp_ne (tgt := 18) hx hb dX12_isRoom_10 (by decide) (fun k54 => ?_) (fun k54 => ?_)
    · have h55 := ib_ne k54
      have b56 : Bd r52 (0) (2) := rf_nhi b52 (by decide : Bd 3 (3) (3)) h55
      refine lv_iload_n hx hb dX12_isRoom_18 rfl (lv_at hl 1 rfl) ?_
      refine lv_if_eq (tgt := 33) hx hb dX12_isRoom_19 (by decide) (fun k57 => ?_) (fun k57 => ?_)
      · have h58 := ib_eq k57
        have b59 : Bd a1 (1) (0) := ⟨(b51).1, ((rf_eq b51 (by decide : Bd 0 (0) (0)) h58).1).2⟩
        exact absurd (Int.le_trans b59.1 b59.2) (by decide)
      · have h60 := ib_ne k57
        refine lv_aload_n hx hb dX12_isRoom_22 rfl (lv_at hl 0 rfl) ?_
        refine xget E hQ 0 (by decide) c29 rfl 12 (by decide) q1480 rfl dX12_isRoom_23 ?_
        refine lv_if_ne (tgt := 33) hx hb dX12_isRoom_26 (by decide) (fun k61 => ?_) (fun k61 => ?_)
        · have h62 := ib_ne k61
          have b63 : Bd v11 (1) (3) := rf_nlo b12 (by decide : Bd 0 (0) (0)) h62
          refine lv_iload_n hx hb dX12_isRoom_33 rfl (lv_at hl 1 rfl) ?_
          refine lv_if_eq (tgt := 48) hx hb dX12_isRoom_34 (by decide) (fun k64 => ?_) (fun k64 => ?_)
          · have h65 := ib_eq k64
            have b66 : Bd a1 (1) (0) := ⟨(b51).1, ((rf_eq b51 (by decide : Bd 0 (0) (0)) h65).1).2⟩
            exact absurd (Int.le_trans b66.1 b66.2) (by decide)
          · have h67 := ib_ne k64
            refine lv_aload_n hx hb dX12_isRoom_37 rfl (lv_at hl 0 rfl) ?_
            refine xget E hQ 0 (by decide) c29 rfl 12 (by decide) q1480 rfl dX12_isRoom_38 ?_
            refine lv_if_ne (tgt := 48) hx hb dX12_isRoom_41 (by decide) (fun k68 => ?_) (fun k68 => ?_)
            · have h69 := ib_ne k68
              refine lv_iconst (v := 0) hx hb dX12_isRoom_48 (by decide) ?_
              have q70 : fld (S 0) 8 = v6.toInt := fld_of c29 rfl
              have q71 : (0 : Int32).toInt = 0 := by decide
              exact xrz E hr hlk hQ rfl (⟨hI, o_refl, (ib_wk (by decide : Bd 0 (0) (0)) (by decide) (by decide)), (by omega), ⟨by omega, by omega⟩, (by omega), Or.inl (by omega)⟩) dX12_isRoom_49
            · have h72 := ib_eq k68
              have b73 : Bd v11 (1) (0) := ⟨(b63).1, ((rf_eq b63 (by decide : Bd 0 (0) (0)) h72).1).2⟩
              exact absurd (Int.le_trans b73.1 b73.2) (by decide)
        · have h74 := ib_eq k61
          have b75 : Bd v11 (0) (0) := ⟨(b12).1, ((rf_eq b12 (by decide : Bd 0 (0) (0)) h74).1).2⟩
          refine lv_aload_n hx hb dX12_isRoom_29 rfl (lv_at hl 0 rfl) ?_
          refine xcVv E hs hQ hml hl.1 0 (gX12_next_0 l g ad hD S hI (by omega)) mX12_next q1637 (by decide) c29 rfl rfl ⟨(Nat.le_of_ble_eq_true rfl), (Nat.le_of_ble_eq_true rfl)⟩ ⟨(Nat.le_of_ble_eq_true rfl), (Nat.le_of_ble_eq_true rfl)⟩ (Nat.le_of_ble_eq_true rfl) rfl dX12_isRoom_30 (fun S76 H locs hp76 hQ _ => ?_)
          obtain ⟨hI, o76, g76_0, g76_1, g76_2, g76_3, g76_4⟩ := hp76
          obtain ⟨v77, v78, v80, v82, v84, v85, w86, v87, v89, v90, v91, v92, v94, v96, v98, v100, v102, v103, v104, c105, b79, b81, b83, b88, b93, b95, b97, b99, b101⟩ := invM_0 hI
          have c105 : S76 0 = .inr (12, [.int v77, .ref (ad 1), .ref (ad 2), .ref (ad 3), .ref (ad 4), .ref (ad 5), .int v78, .int v80, .int v82, .int v84, .int v85, .long w86, .int v87, .int v89, .int v90, .int v91, .ref (ad 6), .ref (ad 7), .ref (ad 8), .ref (ad 9), .ref (ad 10), .ref (ad 11), .ref (ad 12), .ref (ad 13), .ref (ad 14), .ref (ad 15), .int v92, .int v94, .ref (ad 16), .int v96, .int v98, .int v100, .int v102, .int v103, .ref (ad 17), .ref (ad 18), .int v104, .ref (ad 19)]) := c105
          have q106 : fld (S76 0) 6 = v78.toInt := fld_of c105 rfl
          have q107 : fld (S76 0) 7 = v80.toInt := fld_of c105 rfl
          have q108 : fld (S 0) 12 = v11.toInt := fld_of c29 rfl
          have q109 : fld (S76 0) 12 = v87.toInt := fld_of c105 rfl
          have b110 : Bd v87 (0) (0) := ⟨(b88).1, by omega⟩
          have q111 : fld (S76 0) 8 = v82.toInt := fld_of c105 rfl
          refine lv_iload_n hx hb dX12_isRoom_33 rfl (lv_at hl 1 rfl) ?_
          refine lv_if_eq (tgt := 48) hx hb dX12_isRoom_34 (by decide) (fun k112 => ?_) (fun k112 => ?_)
          · have h113 := ib_eq k112
            have b114 : Bd a1 (1) (0) := ⟨(b51).1, ((rf_eq b51 (by decide : Bd 0 (0) (0)) h113).1).2⟩
            exact absurd (Int.le_trans b114.1 b114.2) (by decide)
          · have h115 := ib_ne k112
            refine lv_aload_n hx hb dX12_isRoom_37 rfl (lv_at hl 0 rfl) ?_
            refine xget E hQ 0 (by decide) c105 rfl 12 (by decide) q1480 rfl dX12_isRoom_38 ?_
            refine lv_if_ne (tgt := 48) hx hb dX12_isRoom_41 (by decide) (fun k116 => ?_) (fun k116 => ?_)
            · have h117 := ib_ne k116
              exact absurd (Int.le_antisymm (Int.le_trans (b110).2 ((by decide : Bd 0 (0) (0))).1) (Int.le_trans ((by decide : Bd 0 (0) (0))).2 (b110).1)) h117
            · have h118 := ib_eq k116
              refine lv_iconst (v := 1) hx hb dX12_isRoom_44 (by decide) ?_
              refine lv_goto (tgt := 49) hx hb dX12_isRoom_45 (by decide) ?_
              have q119 : fld (S 0) 8 = v6.toInt := fld_of c29 rfl
              have c120 : S76 7 = .inl (g.2 0, 50, .inl f30) := ((o76 7 (by decide)).trans c31)
              have q121 : elm (S76 7) 48 = v33.toInt := (elm_of c120 48).trans (congrArg Int32.toInt (ee34))
              have q122 : (1 : Int32).toInt = 1 := by decide
              exact xrz E hr hlk hQ rfl (⟨hI, (o_trans o_refl o76 (by decide)), (ib_wk (by decide : Bd 1 (1) (1)) (by decide) (by decide)), (by omega), ⟨by omega, by omega⟩, (by omega), Or.inr (by omega)⟩) dX12_isRoom_49
    · have h123 := ib_eq k54
      have b124 : Bd r52 (3) (3) := ⟨((rf_eq b52 (by decide : Bd 3 (3) (3)) h123).1).1, (b52).2⟩
      refine lv_aload_n hx hb dX12_isRoom_13 rfl (lv_at hl 0 rfl) ?_
      refine lv_iconst (v := 3) hx hb dX12_isRoom_14 (by decide) ?_
      refine xcVv E hs hQ hml hl.1 0 (gX12_fails_0 l g ad hD S hI 3 (ib_wk (by decide : Bd 3 (3) (3)) (by decide) (by decide))) mX12_fails q1667 (by decide) c29 rfl rfl ⟨(Nat.le_of_ble_eq_true rfl), (Nat.le_of_ble_eq_true rfl)⟩ ⟨(Nat.le_of_ble_eq_true rfl), (Nat.le_of_ble_eq_true rfl)⟩ (Nat.le_of_ble_eq_true rfl) rfl dX12_isRoom_15 (fun S125 H locs hp125 hQ _ => ?_)
      obtain ⟨hI, o125, g125_0, g125_1, g125_2, g125_3⟩ := hp125
      obtain ⟨v126, v127, v129, v131, v133, v134, w135, v136, v138, v139, v140, v141, v143, v145, v147, v149, v151, v152, v153, c154, b128, b130, b132, b137, b142, b144, b146, b148, b150⟩ := invM_0 hI
      have c154 : S125 0 = .inr (12, [.int v126, .ref (ad 1), .ref (ad 2), .ref (ad 3), .ref (ad 4), .ref (ad 5), .int v127, .int v129, .int v131, .int v133, .int v134, .long w135, .int v136, .int v138, .int v139, .int v140, .ref (ad 6), .ref (ad 7), .ref (ad 8), .ref (ad 9), .ref (ad 10), .ref (ad 11), .ref (ad 12), .ref (ad 13), .ref (ad 14), .ref (ad 15), .int v141, .int v143, .ref (ad 16), .int v145, .int v147, .int v149, .int v151, .int v152, .ref (ad 17), .ref (ad 18), .int v153, .ref (ad 19)]) := c154
      have q155 : fld (S125 0) 12 = v136.toInt := fld_of c154 rfl
      have b156 : Bd v136 (1) (3) := ⟨by omega, (b137).2⟩
      have q157 : fld (S125 0) 6 = v127.toInt := fld_of c154 rfl
      have q158 : fld (S125 0) 7 = v129.toInt := fld_of c154 rfl
      have q159 : fld (S 0) 8 = v6.toInt := fld_of c29 rfl
      have q160 : fld (S125 0) 8 = v131.toInt := fld_of c154 rfl
      refine lv_iload_n hx hb dX12_isRoom_18 rfl (lv_at hl 1 rfl) ?_
      refine lv_if_eq (tgt := 33) hx hb dX12_isRoom_19 (by decide) (fun k161 => ?_) (fun k161 => ?_)
      · have h162 := ib_eq k161
        have b163 : Bd a1 (1) (0) := ⟨(b51).1, ((rf_eq b51 (by decide : Bd 0 (0) (0)) h162).1).2⟩
        exact absurd (Int.le_trans b163.1 b163.2) (by decide)
      · have h164 := ib_ne k161
        refine lv_aload_n hx hb dX12_isRoom_22 rfl (lv_at hl 0 rfl) ?_
        refine xget E hQ 0 (by decide) c154 rfl 12 (by decide) q1480 rfl dX12_isRoom_23 ?_
        refine lv_if_ne (tgt := 33) hx hb dX12_isRoom_26 (by decide) (fun k165 => ?_) (fun k165 => ?_)
        · have h166 := ib_ne k165
          refine lv_iload_n hx hb dX12_isRoom_33 rfl (lv_at hl 1 rfl) ?_
          refine lv_if_eq (tgt := 48) hx hb dX12_isRoom_34 (by decide) (fun k167 => ?_) (fun k167 => ?_)
          · have h168 := ib_eq k167
            have b169 : Bd a1 (1) (0) := ⟨(b51).1, ((rf_eq b51 (by decide : Bd 0 (0) (0)) h168).1).2⟩
            exact absurd (Int.le_trans b169.1 b169.2) (by decide)
          · have h170 := ib_ne k167
            refine lv_aload_n hx hb dX12_isRoom_37 rfl (lv_at hl 0 rfl) ?_
            refine xget E hQ 0 (by decide) c154 rfl 12 (by decide) q1480 rfl dX12_isRoom_38 ?_
            refine lv_if_ne (tgt := 48) hx hb dX12_isRoom_41 (by decide) (fun k171 => ?_) (fun k171 => ?_)
            · have h172 := ib_ne k171
              refine lv_iconst (v := 0) hx hb dX12_isRoom_48 (by decide) ?_
              have c173 : S125 7 = .inl (g.2 0, 50, .inl f30) := ((o125 7 (by decide)).trans c31)
              have q174 : elm (S125 7) 48 = v33.toInt := (elm_of c173 48).trans (congrArg Int32.toInt (ee34))
              have q175 : (0 : Int32).toInt = 0 := by decide
              exact xrz E hr hlk hQ rfl (⟨hI, (o_trans o_refl o125 (by decide)), (ib_wk (by decide : Bd 0 (0) (0)) (by decide) (by decide)), (by omega), ⟨by omega, by omega⟩, (by omega), Or.inl (by omega)⟩) dX12_isRoom_49
            · have h176 := ib_eq k171
              have b177 : Bd v136 (1) (0) := ⟨(b156).1, ((rf_eq b156 (by decide : Bd 0 (0) (0)) h176).1).2⟩
              exact absurd (Int.le_trans b177.1 b177.2) (by decide)
        · have h178 := ib_eq k165
          have b179 : Bd v136 (1) (0) := ⟨(b156).1, ((rf_eq b156 (by decide : Bd 0 (0) (0)) h178).1).2⟩
          exact absurd (Int.le_trans b179.1 b179.2) (by decide)
set_option maxHeartbeats 4000000 in
set_option maxRecDepth 100000 in
theorem gX12_line_0 (l : Launch) (g : GG) (ad : Nat → Nat) (hD : Dj ad 20) (S : SS) (hI : InvM g ad S) (hq1 : 0 ≤ fld (S 0) 6 + (-1) * fld (S 0) 7) (hq2 : 0 ≤ elm (S 7) 40 + (-1)) (hq3 : 0 ≤ elm (S 7) 46) (hHT : HTp (S 7) (S 9) 4) : Met l yX12_line (wG (.code yX12_line cX12_line 2 none)) (Rm 6) (XPre g ad 20 S [.ref (ad 0)]) (va_Qv (fun S' => InvM g ad S' ∧ (∀ j, j ∉ ([0, 7, 8, 9, 10, 11] : List Nat) → S' j = S j) ∧ (0 ≤ fld (S' 0) 6 + (-1) * fld (S' 0) 7) ∧ (0 ≤ fld (S 0) 6 + (-1) * fld (S' 0) 6 ∧ 0 ≤ fld (S' 0) 6 + (-1) * fld (S 0) 6) ∧ (0 ≤ 4 * fld (S 0) 6 + (-4) * fld (S 0) 7 + fld (S 0) 8 + (-4) * fld (S' 0) 6 + 4 * fld (S' 0) 7 + (-1) * fld (S' 0) 8) ∧ (0 ≤ elm (S 7) 40 + (-1) * elm (S' 7) 40 ∧ 0 ≤ elm (S' 7) 40 + (-1) * elm (S 7) 40) ∧ (0 ≤ elm (S 7) 41 + (-1) * elm (S' 7) 41 ∧ 0 ≤ elm (S' 7) 41 + (-1) * elm (S 7) 41) ∧ (0 ≤ elm (S 7) 43 + (-1) * elm (S' 7) 43 ∧ 0 ≤ elm (S' 7) 43 + (-1) * elm (S 7) 43) ∧ (0 ≤ elm (S 7) 49 + (-1) * elm (S' 7) 49 ∧ 0 ≤ elm (S' 7) 49 + (-1) * elm (S 7) 49) ∧ (HTp (S' 7) (S' 9) 4) ∧ EFp (S' 7) (S 7) 0 40 ∧ EFp (S' 9) (S 9) 0 96) (QB g ad 20) (FA ad 20)) 0 0 (FA ad 20) := by
  refine xmet cX12_line "EbbWreckModel" (by decide) rfl (Nat.le_of_ble_eq_true rfl) (fun p e s m below meth c E hr hlk hml hQ ls hl => ?_)
  have hx := E.1
  have hb := E.2.1
  have hs : Sp ad 20 (FA ad 20) := Sp.fa hD
  have hl : lv_has ls 2 [(0, .ref (ad 0))] := hl
  obtain ⟨v1, v2, v4, v6, v8, v9, w10, v11, v13, v14, v15, v16, v18, v20, v22, v24, v26, v27, v28, c29, b3, b5, b7, b12, b17, b19, b21, b23, b25⟩ := invM_0 hI
  have c29 : S 0 = .inr (12, [.int v1, .ref (ad 1), .ref (ad 2), .ref (ad 3), .ref (ad 4), .ref (ad 5), .int v2, .int v4, .int v6, .int v8, .int v9, .long w10, .int v11, .int v13, .int v14, .int v15, .ref (ad 6), .ref (ad 7), .ref (ad 8), .ref (ad 9), .ref (ad 10), .ref (ad 11), .ref (ad 12), .ref (ad 13), .ref (ad 14), .ref (ad 15), .int v16, .int v18, .ref (ad 16), .int v20, .int v22, .int v24, .int v26, .int v27, .ref (ad 17), .ref (ad 18), .int v28, .ref (ad 19)]) := c29
  obtain ⟨f30, c31, b32⟩ := invM_7 hI
  obtain ⟨v33, ee34⟩ : ∃ z : Int32, f30 40 = z := ⟨_, rfl⟩
  have b35 : Bd v33 (0) (12) := (by rw [← ee34]; exact b32.1 40 (by decide))
  obtain ⟨v36, ee37⟩ : ∃ z : Int32, f30 46 = z := ⟨_, rfl⟩
  have b38 : Bd v36 (0) (8) := (by rw [← ee37]; exact b32.2.2.2.2.1 46 (by decide))
  obtain ⟨v39, ee40⟩ : ∃ z : Int32, f30 41 = z := ⟨_, rfl⟩
  have b41 : Bd v39 (0) (12) := (by rw [← ee40]; exact b32.2.1 41 (by decide))
  obtain ⟨v42, ee43⟩ : ∃ z : Int32, f30 43 = z := ⟨_, rfl⟩
  have b44 : Bd v42 (0) (12) := (by rw [← ee43]; exact b32.2.2.2.1 43 (by decide))
  obtain ⟨v45, ee46⟩ : ∃ z : Int32, f30 49 = z := ⟨_, rfl⟩
  have b47 : Bd v45 (0) (40) := (by rw [← ee46]; exact b32.2.2.2.2.2.2.2 49 (by decide))
  have q48 : fld (S 0) 6 = v2.toInt := fld_of c29 rfl
  have q49 : fld (S 0) 7 = v4.toInt := fld_of c29 rfl
  have q50 : elm (S 7) 40 = v33.toInt := (elm_of c31 40).trans (congrArg Int32.toInt (ee34))
  have b51 : Bd v33 (1) (12) := ⟨by omega, (b35).2⟩
  have q52 : elm (S 7) 46 = v36.toInt := (elm_of c31 46).trans (congrArg Int32.toInt (ee37))
  have ef7_0 : EFp (S 7) (S 7) 0 40 := fun _ _ _ => rfl
  have ef9_0 : EFp (S 9) (S 9) 0 96 := fun _ _ _ => rfl
  obtain ⟨f53, c54, b55⟩ := invM_9 hI
  refine lv_aload_n hx hb dX12_line_0 rfl (lv_at hl 0 rfl) ?_
  refine lv_ldc2 (v := 1473512789) hx hb E.2.2.1 (E.2.2.2.1 _ q1688) dX12_line_1 ?_
  refine xcVi E hs hQ hml hl.1 0 (gX12_takes_0 l g ad hD S hI 1473512789 (by omega)) mX12_takes q1659 (by decide) c29 rfl rfl ⟨(Nat.le_of_ble_eq_true rfl), (Nat.le_of_ble_eq_true rfl)⟩ ⟨(Nat.le_of_ble_eq_true rfl), (Nat.le_of_ble_eq_true rfl)⟩ (Nat.le_of_ble_eq_true rfl) rfl dX12_line_4 (fun r56 S56 H locs hp56 hQ _ => ?_)
  obtain ⟨hI, o56, b56, g56_0, g56_1, g56_2, g56_3, g56_4⟩ := hp56
  obtain ⟨v57, v58, v60, v62, v64, v65, w66, v67, v69, v70, v71, v72, v74, v76, v78, v80, v82, v83, v84, c85, b59, b61, b63, b68, b73, b75, b77, b79, b81⟩ := invM_0 hI
  have c85 : S56 0 = .inr (12, [.int v57, .ref (ad 1), .ref (ad 2), .ref (ad 3), .ref (ad 4), .ref (ad 5), .int v58, .int v60, .int v62, .int v64, .int v65, .long w66, .int v67, .int v69, .int v70, .int v71, .ref (ad 6), .ref (ad 7), .ref (ad 8), .ref (ad 9), .ref (ad 10), .ref (ad 11), .ref (ad 12), .ref (ad 13), .ref (ad 14), .ref (ad 15), .int v72, .int v74, .ref (ad 16), .int v76, .int v78, .int v80, .int v82, .int v83, .ref (ad 17), .ref (ad 18), .int v84, .ref (ad 19)]) := c85
  have q86 : fld (S56 0) 6 = v58.toInt := fld_of c85 rfl
  have q87 : fld (S56 0) 7 = v60.toInt := fld_of c85 rfl
  have q88 : fld (S 0) 8 = v6.toInt := fld_of c29 rfl
  have q89 : fld (S56 0) 8 = v62.toInt := fld_of c85 rfl
  have q90 : fld (S 0) 12 = v11.toInt := fld_of c29 rfl
  have q91 : fld (S56 0) 12 = v67.toInt := fld_of c85 rfl
  refine lv_if_eq (tgt := 17) hx hb dX12_line_7 (by decide) (fun k92 => ?_) (fun k92 => ?_)
  · have h93 := ib_eq k92
    have b94 : Bd r56 (0) (0) := ⟨(b56).1, ((rf_eq b56 (by decide : Bd 0 (0) (0)) h93).1).2⟩
    clear g56_4
    refine lv_aload_n hx hb dX12_line_17 rfl (lv_at hl 0 rfl) ?_
    refine lv_ldc2 (v := 1162115) hx hb E.2.2.1 (E.2.2.2.1 _ q1706) dX12_line_18 ?_
    refine xcVi E hs hQ hml hl.1 0 (gX12_takes_0 l g ad hD S56 hI 1162115 (by omega)) mX12_takes q1659 (by decide) c85 rfl rfl ⟨(Nat.le_of_ble_eq_true rfl), (Nat.le_of_ble_eq_true rfl)⟩ ⟨(Nat.le_of_ble_eq_true rfl), (Nat.le_of_ble_eq_true rfl)⟩ (Nat.le_of_ble_eq_true rfl) rfl dX12_line_21 (fun r95 S95 H locs hp95 hQ _ => ?_)
    obtain ⟨hI, o95, b95, g95_0, g95_1, g95_2, g95_3, g95_4⟩ := hp95
    obtain ⟨v96, v97, v99, v101, v103, v104, w105, v106, v108, v109, v110, v111, v113, v115, v117, v119, v121, v122, v123, c124, b98, b100, b102, b107, b112, b114, b116, b118, b120⟩ := invM_0 hI
    have c124 : S95 0 = .inr (12, [.int v96, .ref (ad 1), .ref (ad 2), .ref (ad 3), .ref (ad 4), .ref (ad 5), .int v97, .int v99, .int v101, .int v103, .int v104, .long w105, .int v106, .int v108, .int v109, .int v110, .ref (ad 6), .ref (ad 7), .ref (ad 8), .ref (ad 9), .ref (ad 10), .ref (ad 11), .ref (ad 12), .ref (ad 13), .ref (ad 14), .ref (ad 15), .int v111, .int v113, .ref (ad 16), .int v115, .int v117, .int v119, .int v121, .int v122, .ref (ad 17), .ref (ad 18), .int v123, .ref (ad 19)]) := c124
    have q125 : fld (S95 0) 6 = v97.toInt := fld_of c124 rfl
    have q126 : fld (S95 0) 7 = v99.toInt := fld_of c124 rfl
    have q127 : fld (S95 0) 8 = v101.toInt := fld_of c124 rfl
    have q128 : fld (S95 0) 12 = v106.toInt := fld_of c124 rfl
    refine lv_if_eq (tgt := 56) hx hb dX12_line_24 (by decide) (fun k129 => ?_) (fun k129 => ?_)
    · have h130 := ib_eq k129
      have b131 : Bd r95 (0) (0) := ⟨(b95).1, ((rf_eq b95 (by decide : Bd 0 (0) (0)) h130).1).2⟩
      clear g95_4
      refine lv_aload_n hx hb dX12_line_56 rfl (lv_at hl 0 rfl) ?_
      refine lv_aload_n hx hb dX12_line_57 rfl (lv_at hl 0 rfl) ?_
      refine lv_ldc2 (v := 10793230) hx hb E.2.2.1 (E.2.2.2.1 _ q1707) dX12_line_58 ?_
      refine xcVi E hs hQ hml hl.1 0 (gX12_is_0 l g ad hD S95 hI 10793230) mX12_is q1663 (by decide) c124 rfl rfl ⟨(Nat.le_of_ble_eq_true rfl), (Nat.le_of_ble_eq_true rfl)⟩ ⟨(Nat.le_of_ble_eq_true rfl), (Nat.le_of_ble_eq_true rfl)⟩ (Nat.le_of_ble_eq_true rfl) rfl dX12_line_61 (fun r132 S132 H locs hp132 hQ _ => ?_)
      obtain ⟨rfl, b132, g132_0⟩ := hp132
      refine lv_bipush (v := 6) hx hb dX12_line_64 (by decide) ?_
      refine lv_bipush (v := 8) hx hb dX12_line_66 (by decide) ?_
      refine xcVi E hs hQ hml hl.1 0 (gX12_isRoom_6 l g ad hD S95 hI r132 b132 (by omega)) mX12_isRoom q1708 (by decide) c124 rfl rfl ⟨(Nat.le_of_ble_eq_true rfl), (Nat.le_of_ble_eq_true rfl)⟩ ⟨(Nat.le_of_ble_eq_true rfl), (Nat.le_of_ble_eq_true rfl)⟩ (Nat.le_of_ble_eq_true rfl) rfl dX12_line_68 (fun r133 S133 H locs hp133 hQ _ => ?_)
      obtain ⟨hI, o133, b133, g133_0, g133_1, g133_2, g133_3⟩ := hp133
      obtain ⟨v134, v135, v137, v139, v141, v142, w143, v144, v146, v147, v148, v149, v151, v153, v155, v157, v159, v160, v161, c162, b136, b138, b140, b145, b150, b152, b154, b156, b158⟩ := invM_0 hI
      have c162 : S133 0 = .inr (12, [.int v134, .ref (ad 1), .ref (ad 2), .ref (ad 3), .ref (ad 4), .ref (ad 5), .int v135, .int v137, .int v139, .int v141, .int v142, .long w143, .int v144, .int v146, .int v147, .int v148, .ref (ad 6), .ref (ad 7), .ref (ad 8), .ref (ad 9), .ref (ad 10), .ref (ad 11), .ref (ad 12), .ref (ad 13), .ref (ad 14), .ref (ad 15), .int v149, .int v151, .ref (ad 16), .int v153, .int v155, .int v157, .int v159, .int v160, .ref (ad 17), .ref (ad 18), .int v161, .ref (ad 19)]) := c162
      have q163 : fld (S133 0) 6 = v135.toInt := fld_of c162 rfl
      have q164 : fld (S133 0) 7 = v137.toInt := fld_of c162 rfl
      have q165 : fld (S133 0) 8 = v139.toInt := fld_of c162 rfl
      have c166 : S133 7 = .inl (g.2 0, 50, .inl f30) := ((o133 7 (by decide)).trans ((o95 7 (by decide)).trans ((o56 7 (by decide)).trans c31)))
      have q167 : elm (S133 7) 46 = v36.toInt := (elm_of c166 46).trans (congrArg Int32.toInt (ee37))
      refine lv_if_eq (tgt := 81) hx hb dX12_line_71 (by decide) (fun k168 => ?_) (fun k168 => ?_)
      · have h169 := ib_eq k168
        have b170 : Bd r133 (0) (0) := ⟨(b133).1, ((rf_eq b133 (by decide : Bd 0 (0) (0)) h169).1).2⟩
        clear g133_3
        refine lv_aload_n hx hb dX12_line_81 rfl (lv_at hl 0 rfl) ?_
        refine xget E hQ 0 (by decide) c162 rfl 12 (by decide) q1480 rfl dX12_line_82 ?_
        refine lv_if_ne (tgt := 113) hx hb dX12_line_85 (by decide) (fun k171 => ?_) (fun k171 => ?_)
        · have h172 := ib_ne k171
          have b173 : Bd v144 (1) (3) := rf_nlo b145 (by decide : Bd 0 (0) (0)) h172
          refine lv_aload_n hx hb dX12_line_113 rfl (lv_at hl 0 rfl) ?_
          refine xget E hQ 0 (by decide) c162 rfl 12 (by decide) q1480 rfl dX12_line_114 ?_
          refine lv_if_ne (tgt := 179) hx hb dX12_line_117 (by decide) (fun k174 => ?_) (fun k174 => ?_)
          · have h175 := ib_ne k174
            refine lv_aload_n hx hb dX12_line_179 rfl (lv_at hl 0 rfl) ?_
            refine xget E hQ 0 (by decide) c162 rfl 12 (by decide) q1480 rfl dX12_line_180 ?_
            refine lv_if_ne (tgt := 191) hx hb dX12_line_183 (by decide) (fun k176 => ?_) (fun k176 => ?_)
            · have h177 := ib_ne k176
              have q178 : elm (S133 7) 40 = v33.toInt := (elm_of c166 40).trans (congrArg Int32.toInt (ee34))
              have q179 : elm (S 7) 41 = v39.toInt := (elm_of c31 41).trans (congrArg Int32.toInt (ee40))
              have q180 : elm (S133 7) 41 = v39.toInt := (elm_of c166 41).trans (congrArg Int32.toInt (ee40))
              have q181 : elm (S 7) 43 = v42.toInt := (elm_of c31 43).trans (congrArg Int32.toInt (ee43))
              have q182 : elm (S133 7) 43 = v42.toInt := (elm_of c166 43).trans (congrArg Int32.toInt (ee43))
              have q183 : elm (S 7) 49 = v45.toInt := (elm_of c31 49).trans (congrArg Int32.toInt (ee46))
              have q184 : elm (S133 7) 49 = v45.toInt := (elm_of c166 49).trans (congrArg Int32.toInt (ee46))
              exact xrv E hr hlk hQ (⟨hI, (o_trans (o_trans (o_trans o_refl o56 (by decide)) o95 (by decide)) o133 (by decide)), (by omega), ⟨by omega, by omega⟩, (by omega), ⟨by omega, by omega⟩, ⟨by omega, by omega⟩, ⟨by omega, by omega⟩, ⟨by omega, by omega⟩, (ht_tr hHT ((o133 7 (by decide)).trans ((o95 7 (by decide)).trans (o56 7 (by decide)))) ((o133 9 (by decide)).trans ((o95 9 (by decide)).trans (o56 9 (by decide))))), (ef_tr ef7_0 ((o133 7 (by decide)).trans ((o95 7 (by decide)).trans (o56 7 (by decide))))), (ef_tr ef9_0 ((o133 9 (by decide)).trans ((o95 9 (by decide)).trans (o56 9 (by decide)))))⟩) dX12_line_191
            · have h185 := ib_eq k176
              have b186 : Bd v144 (1) (0) := ⟨(b173).1, ((rf_eq b173 (by decide : Bd 0 (0) (0)) h185).1).2⟩
              exact absurd (Int.le_trans b186.1 b186.2) (by decide)
          · have h187 := ib_eq k174
            have b188 : Bd v144 (1) (0) := ⟨(b173).1, ((rf_eq b173 (by decide : Bd 0 (0) (0)) h187).1).2⟩
            exact absurd (Int.le_trans b188.1 b188.2) (by decide)
        · have h189 := ib_eq k171
          have b190 : Bd v144 (0) (0) := ⟨(b145).1, ((rf_eq b145 (by decide : Bd 0 (0) (0)) h189).1).2⟩
          refine lv_aload_n hx hb dX12_line_88 rfl (lv_at hl 0 rfl) ?_
          refine lv_aload_n hx hb dX12_line_89 rfl (lv_at hl 0 rfl) ?_
          refine lv_ldc2 (v := 369932) hx hb E.2.2.1 (E.2.2.2.1 _ q1719) dX12_line_90 ?_
          refine xcVi E hs hQ hml hl.1 0 (gX12_is_0 l g ad hD S133 hI 369932) mX12_is q1663 (by decide) c162 rfl rfl ⟨(Nat.le_of_ble_eq_true rfl), (Nat.le_of_ble_eq_true rfl)⟩ ⟨(Nat.le_of_ble_eq_true rfl), (Nat.le_of_ble_eq_true rfl)⟩ (Nat.le_of_ble_eq_true rfl) rfl dX12_line_93 (fun r191 S191 H locs hp191 hQ _ => ?_)
          obtain ⟨rfl, b191, g191_0⟩ := hp191
          have q192 : fld (S133 0) 12 = v144.toInt := fld_of c162 rfl
          refine lv_bipush (v := 7) hx hb dX12_line_96 (by decide) ?_
          refine lv_bipush (v := 6) hx hb dX12_line_98 (by decide) ?_
          refine xcVi E hs hQ hml hl.1 0 (gX12_isRoom_7 l g ad hD S133 hI r191 b191 (by omega)) mX12_isRoom q1708 (by decide) c162 rfl rfl ⟨(Nat.le_of_ble_eq_true rfl), (Nat.le_of_ble_eq_true rfl)⟩ ⟨(Nat.le_of_ble_eq_true rfl), (Nat.le_of_ble_eq_true rfl)⟩ (Nat.le_of_ble_eq_true rfl) rfl dX12_line_100 (fun r193 S193 H locs hp193 hQ _ => ?_)
          obtain ⟨hI, o193, b193, g193_0, g193_1, g193_2, g193_3⟩ := hp193
          obtain ⟨v194, v195, v197, v199, v201, v202, w203, v204, v206, v207, v208, v209, v211, v213, v215, v217, v219, v220, v221, c222, b196, b198, b200, b205, b210, b212, b214, b216, b218⟩ := invM_0 hI
          have c222 : S193 0 = .inr (12, [.int v194, .ref (ad 1), .ref (ad 2), .ref (ad 3), .ref (ad 4), .ref (ad 5), .int v195, .int v197, .int v199, .int v201, .int v202, .long w203, .int v204, .int v206, .int v207, .int v208, .ref (ad 6), .ref (ad 7), .ref (ad 8), .ref (ad 9), .ref (ad 10), .ref (ad 11), .ref (ad 12), .ref (ad 13), .ref (ad 14), .ref (ad 15), .int v209, .int v211, .ref (ad 16), .int v213, .int v215, .int v217, .int v219, .int v220, .ref (ad 17), .ref (ad 18), .int v221, .ref (ad 19)]) := c222
          have q223 : fld (S193 0) 6 = v195.toInt := fld_of c222 rfl
          have q224 : fld (S193 0) 7 = v197.toInt := fld_of c222 rfl
          have q225 : fld (S193 0) 8 = v199.toInt := fld_of c222 rfl
          have c226 : S193 7 = .inl (g.2 0, 50, .inl f30) := ((o193 7 (by decide)).trans c166)
          obtain ⟨v227, ee228⟩ : ∃ z : Int32, f30 47 = z := ⟨_, rfl⟩
          have b229 : Bd v227 (0) (6) := (by rw [← ee228]; exact b32.2.2.2.2.2.1 47 (by decide))
          have q230 : elm (S193 7) 47 = v227.toInt := (elm_of c226 47).trans (congrArg Int32.toInt (ee228))
          refine lv_if_eq (tgt := 113) hx hb dX12_line_103 (by decide) (fun k231 => ?_) (fun k231 => ?_)
          · have h232 := ib_eq k231
            have b233 : Bd r193 (0) (0) := ⟨(b193).1, ((rf_eq b193 (by decide : Bd 0 (0) (0)) h232).1).2⟩
            clear g193_3
            refine lv_aload_n hx hb dX12_line_113 rfl (lv_at hl 0 rfl) ?_
            refine xget E hQ 0 (by decide) c222 rfl 12 (by decide) q1480 rfl dX12_line_114 ?_
            refine lv_if_ne (tgt := 179) hx hb dX12_line_117 (by decide) (fun k234 => ?_) (fun k234 => ?_)
            · have h235 := ib_ne k234
              have b236 : Bd v204 (1) (3) := rf_nlo b205 (by decide : Bd 0 (0) (0)) h235
              refine lv_aload_n hx hb dX12_line_179 rfl (lv_at hl 0 rfl) ?_
              refine xget E hQ 0 (by decide) c222 rfl 12 (by decide) q1480 rfl dX12_line_180 ?_
              refine lv_if_ne (tgt := 191) hx hb dX12_line_183 (by decide) (fun k237 => ?_) (fun k237 => ?_)
              · have h238 := ib_ne k237
                have q239 : elm (S193 7) 40 = v33.toInt := (elm_of c226 40).trans (congrArg Int32.toInt (ee34))
                have q240 : elm (S 7) 41 = v39.toInt := (elm_of c31 41).trans (congrArg Int32.toInt (ee40))
                have q241 : elm (S193 7) 41 = v39.toInt := (elm_of c226 41).trans (congrArg Int32.toInt (ee40))
                have q242 : elm (S 7) 43 = v42.toInt := (elm_of c31 43).trans (congrArg Int32.toInt (ee43))
                have q243 : elm (S193 7) 43 = v42.toInt := (elm_of c226 43).trans (congrArg Int32.toInt (ee43))
                have q244 : elm (S 7) 49 = v45.toInt := (elm_of c31 49).trans (congrArg Int32.toInt (ee46))
                have q245 : elm (S193 7) 49 = v45.toInt := (elm_of c226 49).trans (congrArg Int32.toInt (ee46))
                exact xrv E hr hlk hQ (⟨hI, (o_trans (o_trans (o_trans (o_trans o_refl o56 (by decide)) o95 (by decide)) o133 (by decide)) o193 (by decide)), (by omega), ⟨by omega, by omega⟩, (by omega), ⟨by omega, by omega⟩, ⟨by omega, by omega⟩, ⟨by omega, by omega⟩, ⟨by omega, by omega⟩, (ht_tr hHT ((o193 7 (by decide)).trans ((o133 7 (by decide)).trans ((o95 7 (by decide)).trans (o56 7 (by decide))))) ((o193 9 (by decide)).trans ((o133 9 (by decide)).trans ((o95 9 (by decide)).trans (o56 9 (by decide)))))), (ef_tr ef7_0 ((o193 7 (by decide)).trans ((o133 7 (by decide)).trans ((o95 7 (by decide)).trans (o56 7 (by decide)))))), (ef_tr ef9_0 ((o193 9 (by decide)).trans ((o133 9 (by decide)).trans ((o95 9 (by decide)).trans (o56 9 (by decide))))))⟩) dX12_line_191
              · have h246 := ib_eq k237
                have b247 : Bd v204 (1) (0) := ⟨(b236).1, ((rf_eq b236 (by decide : Bd 0 (0) (0)) h246).1).2⟩
                exact absurd (Int.le_trans b247.1 b247.2) (by decide)
            · have h248 := ib_eq k234
              have b249 : Bd v204 (0) (0) := ⟨(b205).1, ((rf_eq b205 (by decide : Bd 0 (0) (0)) h248).1).2⟩
              refine lv_aload_n hx hb dX12_line_120 rfl (lv_at hl 0 rfl) ?_
              refine lv_aload_n hx hb dX12_line_121 rfl (lv_at hl 0 rfl) ?_
              refine lv_ldc2 (v := 277820595) hx hb E.2.2.1 (E.2.2.2.1 _ q1730) dX12_line_122 ?_
              refine xcVi E hs hQ hml hl.1 0 (gX12_is_0 l g ad hD S193 hI 277820595) mX12_is q1663 (by decide) c222 rfl rfl ⟨(Nat.le_of_ble_eq_true rfl), (Nat.le_of_ble_eq_true rfl)⟩ ⟨(Nat.le_of_ble_eq_true rfl), (Nat.le_of_ble_eq_true rfl)⟩ (Nat.le_of_ble_eq_true rfl) rfl dX12_line_125 (fun r250 S250 H locs hp250 hQ _ => ?_)
              obtain ⟨rfl, b250, g250_0⟩ := hp250
              have q251 : fld (S193 0) 12 = v204.toInt := fld_of c222 rfl
              refine lv_bipush (v := 8) hx hb dX12_line_128 (by decide) ?_
              refine lv_iconst (v := 3) hx hb dX12_line_130 (by decide) ?_
              refine xcVi E hs hQ hml hl.1 0 (gX12_isRoom_8 l g ad hD S193 hI r250 b250 (by omega)) mX12_isRoom q1708 (by decide) c222 rfl rfl ⟨(Nat.le_of_ble_eq_true rfl), (Nat.le_of_ble_eq_true rfl)⟩ ⟨(Nat.le_of_ble_eq_true rfl), (Nat.le_of_ble_eq_true rfl)⟩ (Nat.le_of_ble_eq_true rfl) rfl dX12_line_131 (fun r252 S252 H locs hp252 hQ _ => ?_)
              obtain ⟨hI, o252, b252, g252_0, g252_1, g252_2, g252_3⟩ := hp252
              obtain ⟨v253, v254, v256, v258, v260, v261, w262, v263, v265, v266, v267, v268, v270, v272, v274, v276, v278, v279, v280, c281, b255, b257, b259, b264, b269, b271, b273, b275, b277⟩ := invM_0 hI
              have c281 : S252 0 = .inr (12, [.int v253, .ref (ad 1), .ref (ad 2), .ref (ad 3), .ref (ad 4), .ref (ad 5), .int v254, .int v256, .int v258, .int v260, .int v261, .long w262, .int v263, .int v265, .int v266, .int v267, .ref (ad 6), .ref (ad 7), .ref (ad 8), .ref (ad 9), .ref (ad 10), .ref (ad 11), .ref (ad 12), .ref (ad 13), .ref (ad 14), .ref (ad 15), .int v268, .int v270, .ref (ad 16), .int v272, .int v274, .int v276, .int v278, .int v279, .ref (ad 17), .ref (ad 18), .int v280, .ref (ad 19)]) := c281
              have q282 : fld (S252 0) 6 = v254.toInt := fld_of c281 rfl
              have q283 : fld (S252 0) 7 = v256.toInt := fld_of c281 rfl
              have q284 : fld (S252 0) 8 = v258.toInt := fld_of c281 rfl
              have c285 : S252 7 = .inl (g.2 0, 50, .inl f30) := ((o252 7 (by decide)).trans c226)
              obtain ⟨v286, ee287⟩ : ∃ z : Int32, f30 48 = z := ⟨_, rfl⟩
              have b288 : Bd v286 (0) (3) := (by rw [← ee287]; exact b32.2.2.2.2.2.2.1 48 (by decide))
              have q289 : elm (S252 7) 48 = v286.toInt := (elm_of c285 48).trans (congrArg Int32.toInt (ee287))
              refine lv_if_eq (tgt := 179) hx hb dX12_line_134 (by decide) (fun k290 => ?_) (fun k290 => ?_)
              · have h291 := ib_eq k290
                have b292 : Bd r252 (0) (0) := ⟨(b252).1, ((rf_eq b252 (by decide : Bd 0 (0) (0)) h291).1).2⟩
                clear g252_3
                refine lv_aload_n hx hb dX12_line_179 rfl (lv_at hl 0 rfl) ?_
                refine xget E hQ 0 (by decide) c281 rfl 12 (by decide) q1480 rfl dX12_line_180 ?_
                refine lv_if_ne (tgt := 191) hx hb dX12_line_183 (by decide) (fun k293 => ?_) (fun k293 => ?_)
                · have h294 := ib_ne k293
                  have b295 : Bd v263 (1) (3) := rf_nlo b264 (by decide : Bd 0 (0) (0)) h294
                  have q296 : elm (S252 7) 40 = v33.toInt := (elm_of c285 40).trans (congrArg Int32.toInt (ee34))
                  have q297 : elm (S 7) 41 = v39.toInt := (elm_of c31 41).trans (congrArg Int32.toInt (ee40))
                  have q298 : elm (S252 7) 41 = v39.toInt := (elm_of c285 41).trans (congrArg Int32.toInt (ee40))
                  have q299 : elm (S 7) 43 = v42.toInt := (elm_of c31 43).trans (congrArg Int32.toInt (ee43))
                  have q300 : elm (S252 7) 43 = v42.toInt := (elm_of c285 43).trans (congrArg Int32.toInt (ee43))
                  have q301 : elm (S 7) 49 = v45.toInt := (elm_of c31 49).trans (congrArg Int32.toInt (ee46))
                  have q302 : elm (S252 7) 49 = v45.toInt := (elm_of c285 49).trans (congrArg Int32.toInt (ee46))
                  exact xrv E hr hlk hQ (⟨hI, (o_trans (o_trans (o_trans (o_trans (o_trans o_refl o56 (by decide)) o95 (by decide)) o133 (by decide)) o193 (by decide)) o252 (by decide)), (by omega), ⟨by omega, by omega⟩, (by omega), ⟨by omega, by omega⟩, ⟨by omega, by omega⟩, ⟨by omega, by omega⟩, ⟨by omega, by omega⟩, (ht_tr hHT ((o252 7 (by decide)).trans ((o193 7 (by decide)).trans ((o133 7 (by decide)).trans ((o95 7 (by decide)).trans (o56 7 (by decide)))))) ((o252 9 (by decide)).trans ((o193 9 (by decide)).trans ((o133 9 (by decide)).trans ((o95 9 (by decide)).trans (o56 9 (by decide))))))), (ef_tr ef7_0 ((o252 7 (by decide)).trans ((o193 7 (by decide)).trans ((o133 7 (by decide)).trans ((o95 7 (by decide)).trans (o56 7 (by decide))))))), (ef_tr ef9_0 ((o252 9 (by decide)).trans ((o193 9 (by decide)).trans ((o133 9 (by decide)).trans ((o95 9 (by decide)).trans (o56 9 (by decide)))))))⟩) dX12_line_191
                · have h303 := ib_eq k293
                  have b304 : Bd v263 (0) (0) := ⟨(b264).1, ((rf_eq b264 (by decide : Bd 0 (0) (0)) h303).1).2⟩
                  refine lv_aload_n hx hb dX12_line_186 rfl (lv_at hl 0 rfl) ?_
                  refine lv_iconst (v := 1) hx hb dX12_line_187 (by decide) ?_
                  refine xcVv E hs hQ hml hl.1 0 (gX12_fails_0 l g ad hD S252 hI 1 (ib_wk (by decide : Bd 1 (1) (1)) (by decide) (by decide))) mX12_fails q1667 (by decide) c281 rfl rfl ⟨(Nat.le_of_ble_eq_true rfl), (Nat.le_of_ble_eq_true rfl)⟩ ⟨(Nat.le_of_ble_eq_true rfl), (Nat.le_of_ble_eq_true rfl)⟩ (Nat.le_of_ble_eq_true rfl) rfl dX12_line_188 (fun S305 H locs hp305 hQ _ => ?_)
                  obtain ⟨hI, o305, g305_0, g305_1, g305_2, g305_3⟩ := hp305
                  obtain ⟨v306, v307, v309, v311, v313, v314, w315, v316, v318, v319, v320, v321, v323, v325, v327, v329, v331, v332, v333, c334, b308, b310, b312, b317, b322, b324, b326, b328, b330⟩ := invM_0 hI
                  have c334 : S305 0 = .inr (12, [.int v306, .ref (ad 1), .ref (ad 2), .ref (ad 3), .ref (ad 4), .ref (ad 5), .int v307, .int v309, .int v311, .int v313, .int v314, .long w315, .int v316, .int v318, .int v319, .int v320, .ref (ad 6), .ref (ad 7), .ref (ad 8), .ref (ad 9), .ref (ad 10), .ref (ad 11), .ref (ad 12), .ref (ad 13), .ref (ad 14), .ref (ad 15), .int v321, .int v323, .ref (ad 16), .int v325, .int v327, .int v329, .int v331, .int v332, .ref (ad 17), .ref (ad 18), .int v333, .ref (ad 19)]) := c334
                  have q335 : fld (S305 0) 12 = v316.toInt := fld_of c334 rfl
                  have b336 : Bd v316 (1) (3) := ⟨by omega, (b317).2⟩
                  have q337 : fld (S305 0) 6 = v307.toInt := fld_of c334 rfl
                  have q338 : fld (S305 0) 7 = v309.toInt := fld_of c334 rfl
                  have q339 : fld (S305 0) 8 = v311.toInt := fld_of c334 rfl
                  have c340 : S305 7 = .inl (g.2 0, 50, .inl f30) := ((o305 7 (by decide)).trans c285)
                  have q341 : elm (S305 7) 40 = v33.toInt := (elm_of c340 40).trans (congrArg Int32.toInt (ee34))
                  have q342 : elm (S 7) 41 = v39.toInt := (elm_of c31 41).trans (congrArg Int32.toInt (ee40))
                  have q343 : elm (S305 7) 41 = v39.toInt := (elm_of c340 41).trans (congrArg Int32.toInt (ee40))
                  have q344 : elm (S 7) 43 = v42.toInt := (elm_of c31 43).trans (congrArg Int32.toInt (ee43))
                  have q345 : elm (S305 7) 43 = v42.toInt := (elm_of c340 43).trans (congrArg Int32.toInt (ee43))
                  have q346 : elm (S 7) 49 = v45.toInt := (elm_of c31 49).trans (congrArg Int32.toInt (ee46))
                  have q347 : elm (S305 7) 49 = v45.toInt := (elm_of c340 49).trans (congrArg Int32.toInt (ee46))
                  exact xrv E hr hlk hQ (⟨hI, (o_trans (o_trans (o_trans (o_trans (o_trans (o_trans o_refl o56 (by decide)) o95 (by decide)) o133 (by decide)) o193 (by decide)) o252 (by decide)) o305 (by decide)), (by omega), ⟨by omega, by omega⟩, (by omega), ⟨by omega, by omega⟩, ⟨by omega, by omega⟩, ⟨by omega, by omega⟩, ⟨by omega, by omega⟩, (ht_tr hHT ((o305 7 (by decide)).trans ((o252 7 (by decide)).trans ((o193 7 (by decide)).trans ((o133 7 (by decide)).trans ((o95 7 (by decide)).trans (o56 7 (by decide))))))) ((o305 9 (by decide)).trans ((o252 9 (by decide)).trans ((o193 9 (by decide)).trans ((o133 9 (by decide)).trans ((o95 9 (by decide)).trans (o56 9 (by decide)))))))), (ef_tr ef7_0 ((o305 7 (by decide)).trans ((o252 7 (by decide)).trans ((o193 7 (by decide)).trans ((o133 7 (by decide)).trans ((o95 7 (by decide)).trans (o56 7 (by decide)))))))), (ef_tr ef9_0 ((o305 9 (by decide)).trans ((o252 9 (by decide)).trans ((o193 9 (by decide)).trans ((o133 9 (by decide)).trans ((o95 9 (by decide)).trans (o56 9 (by decide))))))))⟩) dX12_line_191
              · have h348 := ib_ne k290
                have b349 : Bd r252 (1) (1) := rf_nlo b252 (by decide : Bd 0 (0) (0)) h348
                have g350 := g252_3.resolve_left (by omega)
                clear g252_3
                have b351 : Bd v286 (0) (2) := ⟨(b288).1, by omega⟩
                refine lv_aload_n hx hb dX12_line_137 rfl (lv_at hl 0 rfl) ?_
                refine lv_ldc2 (v := 47) hx hb E.2.2.1 (E.2.2.2.1 _ q1717) dX12_line_138 ?_
                refine xcVv E hs hQ hml hl.1 0 (gX12_asks_0 l g ad hD S252 hI 47 (by omega)) mX12_asks q1655 (by decide) c281 rfl rfl ⟨(Nat.le_of_ble_eq_true rfl), (Nat.le_of_ble_eq_true rfl)⟩ ⟨(Nat.le_of_ble_eq_true rfl), (Nat.le_of_ble_eq_true rfl)⟩ (Nat.le_of_ble_eq_true rfl) rfl dX12_line_141 (fun S352 H locs hp352 hQ _ => ?_)
                obtain ⟨hI, o352, g352_0, g352_1, g352_2⟩ := hp352
                obtain ⟨v353, v354, v356, v358, v360, v361, w362, v363, v365, v366, v367, v368, v370, v372, v374, v376, v378, v379, v380, c381, b355, b357, b359, b364, b369, b371, b373, b375, b377⟩ := invM_0 hI
                have c381 : S352 0 = .inr (12, [.int v353, .ref (ad 1), .ref (ad 2), .ref (ad 3), .ref (ad 4), .ref (ad 5), .int v354, .int v356, .int v358, .int v360, .int v361, .long w362, .int v363, .int v365, .int v366, .int v367, .ref (ad 6), .ref (ad 7), .ref (ad 8), .ref (ad 9), .ref (ad 10), .ref (ad 11), .ref (ad 12), .ref (ad 13), .ref (ad 14), .ref (ad 15), .int v368, .int v370, .ref (ad 16), .int v372, .int v374, .int v376, .int v378, .int v379, .ref (ad 17), .ref (ad 18), .int v380, .ref (ad 19)]) := c381
                have q382 : fld (S352 0) 6 = v354.toInt := fld_of c381 rfl
                have q383 : fld (S352 0) 7 = v356.toInt := fld_of c381 rfl
                have q384 : fld (S352 0) 8 = v358.toInt := fld_of c381 rfl
                refine lv_aload_n hx hb dX12_line_144 rfl (lv_at hl 0 rfl) ?_
                refine xget E hQ 0 (by decide) c381 rfl 21 (by decide) q1489 rfl dX12_line_145 ?_
                refine lv_bipush (v := 12) hx hb dX12_line_148 (by decide) ?_
                refine lv_aload_n hx hb dX12_line_150 rfl (lv_at hl 0 rfl) ?_
                refine lv_bipush (v := 8) hx hb dX12_line_151 (by decide) ?_
                have c385 : S352 7 = .inl (g.2 0, 50, .inl f30) := ((o352 7 (by decide)).trans c285)
                refine xcVi E hs hQ hml hl.1 0 (gX12_hasRead_8 l g ad hD S352 hI ) mX12_hasRead q1697 (by decide) c381 rfl rfl ⟨(Nat.le_of_ble_eq_true rfl), (Nat.le_of_ble_eq_true rfl)⟩ ⟨(Nat.le_of_ble_eq_true rfl), (Nat.le_of_ble_eq_true rfl)⟩ (Nat.le_of_ble_eq_true rfl) rfl dX12_line_153 (fun r386 S386 H locs hp386 hQ _ => ?_)
                obtain ⟨rfl, b386, g386_0⟩ := hp386
                have q387 : elm (S352 7) 48 = v286.toInt := (elm_of c385 48).trans (congrArg Int32.toInt (ee287))
                have b388 : Bd r386 (0) (2) := ⟨(b386).1, by omega⟩
                refine lv_iadd hx hb dX12_line_156 ?_
                refine lv_topi (fun z389 e390 => ?_)
                have t391 := ib_add e390 (by decide : Bd 12 (12) (12)) b388 (by decide) (by decide)
                have b392 : Bd z389 (12) (14) := ib_addb t391 (by decide : Bd 12 (12) (12)) b388
                have t391 : z389.toInt = 12 + r386.toInt := fold_add t391 (by decide) rfl
                refine lv_aload_n hx hb dX12_line_157 rfl (lv_at hl 0 rfl) ?_
                have q393 : elm (S352 7) 40 = v33.toInt := (elm_of c385 40).trans (congrArg Int32.toInt (ee34))
                refine xcVi E hs hQ hml hl.1 0 (gX12_cellHere_0 l g ad hD S352 hI (by omega) (by omega)) mX12_cellHere q1693 (by decide) c381 rfl rfl ⟨(Nat.le_of_ble_eq_true rfl), (Nat.le_of_ble_eq_true rfl)⟩ ⟨(Nat.le_of_ble_eq_true rfl), (Nat.le_of_ble_eq_true rfl)⟩ (Nat.le_of_ble_eq_true rfl) rfl dX12_line_158 (fun r394 S394 H locs hp394 hQ _ => ?_)
                obtain ⟨hI, o394, b394, g394_0, g394_1, g394_2, g394_3⟩ := hp394
                obtain ⟨v395, v396, v398, v400, v402, v403, w404, v405, v407, v408, v409, v410, v412, v414, v416, v418, v420, v421, v422, c423, b397, b399, b401, b406, b411, b413, b415, b417, b419⟩ := invM_0 hI
                have c423 : S394 0 = .inr (12, [.int v395, .ref (ad 1), .ref (ad 2), .ref (ad 3), .ref (ad 4), .ref (ad 5), .int v396, .int v398, .int v400, .int v402, .int v403, .long w404, .int v405, .int v407, .int v408, .int v409, .ref (ad 6), .ref (ad 7), .ref (ad 8), .ref (ad 9), .ref (ad 10), .ref (ad 11), .ref (ad 12), .ref (ad 13), .ref (ad 14), .ref (ad 15), .int v410, .int v412, .ref (ad 16), .int v414, .int v416, .int v418, .int v420, .int v421, .ref (ad 17), .ref (ad 18), .int v422, .ref (ad 19)]) := c423
                have q424 : fld (S394 0) 6 = v396.toInt := fld_of c423 rfl
                have q425 : fld (S394 0) 7 = v398.toInt := fld_of c423 rfl
                have q426 : fld (S394 0) 8 = v400.toInt := fld_of c423 rfl
                have c427 : S394 7 = .inl (g.2 0, 50, .inl f30) := ((o394 7 (by decide)).trans c385)
                have q428 : elm (S394 7) 40 = v33.toInt := (elm_of c427 40).trans (congrArg Int32.toInt (ee34))
                obtain ⟨f429, c430, b431⟩ := invM_11 hI
                refine xiast E hs hQ 11 (by decide) c430 (ib_in b392 (by decide) (by decide)) dX12_line_161 (fun H locs S432 eS432 hQ => ?_)
                have hI := invM_up_11 hI eS432 ⟨_, rfl, upd_b b431 b394⟩
                have b434 : ∀ j, Bd ((upd f429 (z389 : Int32).toNatClampNeg r394) j) (0) (11) := upd_b b431 b394
                have c433 : S432 11 = .inl (g.2 0, 15, .inl (upd f429 (z389 : Int32).toNatClampNeg r394)) := up_at eS432 rfl
                refine lv_aload_n hx hb dX12_line_162 rfl (lv_at hl 0 rfl) ?_
                refine lv_bipush (v := 8) hx hb dX12_line_163 (by decide) ?_
                refine lv_aload_n hx hb dX12_line_165 rfl (lv_at hl 0 rfl) ?_
                refine lv_bipush (v := 8) hx hb dX12_line_166 (by decide) ?_
                have c435 : S432 7 = .inl (g.2 0, 50, .inl f30) := (up_ne eS432 (by decide) c427)
                have c437 : S432 0 = .inr (12, [.int v395, .ref (ad 1), .ref (ad 2), .ref (ad 3), .ref (ad 4), .ref (ad 5), .int v396, .int v398, .int v400, .int v402, .int v403, .long w404, .int v405, .int v407, .int v408, .int v409, .ref (ad 6), .ref (ad 7), .ref (ad 8), .ref (ad 9), .ref (ad 10), .ref (ad 11), .ref (ad 12), .ref (ad 13), .ref (ad 14), .ref (ad 15), .int v410, .int v412, .ref (ad 16), .int v414, .int v416, .int v418, .int v420, .int v421, .ref (ad 17), .ref (ad 18), .int v422, .ref (ad 19)]) := (up_ne eS432 (by decide) c423)
                refine xcVi E hs hQ hml hl.1 0 (gX12_hasRead_8 l g ad hD S432 hI ) mX12_hasRead q1697 (by decide) c437 rfl rfl ⟨(Nat.le_of_ble_eq_true rfl), (Nat.le_of_ble_eq_true rfl)⟩ ⟨(Nat.le_of_ble_eq_true rfl), (Nat.le_of_ble_eq_true rfl)⟩ (Nat.le_of_ble_eq_true rfl) rfl dX12_line_168 (fun r436 S436 H locs hp436 hQ _ => ?_)
                obtain ⟨rfl, b436, g436_0⟩ := hp436
                have q438 : elm (S432 7) 48 = v286.toInt := (elm_of c435 48).trans (congrArg Int32.toInt (ee287))
                have b439 : Bd r436 (0) (2) := ⟨(b436).1, by omega⟩
                refine lv_iconst (v := 1) hx hb dX12_line_171 (by decide) ?_
                refine lv_iadd hx hb dX12_line_172 ?_
                refine lv_topi (fun z440 e441 => ?_)
                have t442 := ib_add e441 b439 (by decide : Bd 1 (1) (1)) (by decide) (by decide)
                have b443 : Bd z440 (1) (3) := ib_addb t442 b439 (by decide : Bd 1 (1) (1))
                have t442 : z440.toInt = r436.toInt + 1 := fold_add t442 rfl (by decide)
                refine xcVv E hs hQ hml hl.1 0 (gX12_tells_8 l g ad hD S432 hI z440 (ib_wk b443 (by decide) (by decide))) mX12_tells q1629 (by decide) c437 rfl rfl ⟨(Nat.le_of_ble_eq_true rfl), (Nat.le_of_ble_eq_true rfl)⟩ ⟨(Nat.le_of_ble_eq_true rfl), (Nat.le_of_ble_eq_true rfl)⟩ (Nat.le_of_ble_eq_true rfl) rfl dX12_line_173 (fun S444 H locs hp444 hQ _ => ?_)
                obtain ⟨hI, o444, g444_0, g444_1, g444_2, g444_3, g444_4, g444_5, g444_6, ef444_7⟩ := hp444
                have ef445 : EFp (S444 7) (S 7) 0 40 := ef_tt ef444_7 (ef_tr ef7_0 ((up_eq (j := 7) eS432 (by decide)).trans ((o394 7 (by decide)).trans ((o352 7 (by decide)).trans ((o252 7 (by decide)).trans ((o193 7 (by decide)).trans ((o133 7 (by decide)).trans ((o95 7 (by decide)).trans (o56 7 (by decide))))))))))
                obtain ⟨f446, c447, b448⟩ := invM_7 hI
                obtain ⟨v449, ee450⟩ : ∃ z : Int32, f446 48 = z := ⟨_, rfl⟩
                have b451 : Bd v449 (0) (3) := (by rw [← ee450]; exact b448.2.2.2.2.2.2.1 48 (by decide))
                have q452 : elm (S444 7) 48 = v449.toInt := (elm_of c447 48).trans (congrArg Int32.toInt (ee450))
                have b453 : Bd v449 (1) (3) := ⟨by omega, (b451).2⟩
                have q454 : elm (S432 7) 40 = v33.toInt := (elm_of c435 40).trans (congrArg Int32.toInt (ee34))
                obtain ⟨v455, ee456⟩ : ∃ z : Int32, f446 40 = z := ⟨_, rfl⟩
                have b457 : Bd v455 (0) (12) := (by rw [← ee456]; exact b448.1 40 (by decide))
                have q458 : elm (S444 7) 40 = v455.toInt := (elm_of c447 40).trans (congrArg Int32.toInt (ee456))
                have b459 : Bd v455 (1) (12) := ⟨by omega, (b457).2⟩
                have q460 : elm (S432 7) 41 = v39.toInt := (elm_of c435 41).trans (congrArg Int32.toInt (ee40))
                obtain ⟨v461, ee462⟩ : ∃ z : Int32, f446 41 = z := ⟨_, rfl⟩
                have b463 : Bd v461 (0) (12) := (by rw [← ee462]; exact b448.2.1 41 (by decide))
                have q464 : elm (S444 7) 41 = v461.toInt := (elm_of c447 41).trans (congrArg Int32.toInt (ee462))
                have q465 : elm (S432 7) 43 = v42.toInt := (elm_of c435 43).trans (congrArg Int32.toInt (ee43))
                obtain ⟨v466, ee467⟩ : ∃ z : Int32, f446 43 = z := ⟨_, rfl⟩
                have b468 : Bd v466 (0) (12) := (by rw [← ee467]; exact b448.2.2.2.1 43 (by decide))
                have q469 : elm (S444 7) 43 = v466.toInt := (elm_of c447 43).trans (congrArg Int32.toInt (ee467))
                have q470 : elm (S432 7) 46 = v36.toInt := (elm_of c435 46).trans (congrArg Int32.toInt (ee37))
                obtain ⟨v471, ee472⟩ : ∃ z : Int32, f446 46 = z := ⟨_, rfl⟩
                have b473 : Bd v471 (0) (8) := (by rw [← ee472]; exact b448.2.2.2.2.1 46 (by decide))
                have q474 : elm (S444 7) 46 = v471.toInt := (elm_of c447 46).trans (congrArg Int32.toInt (ee472))
                have q475 : elm (S432 7) 47 = v227.toInt := (elm_of c435 47).trans (congrArg Int32.toInt (ee228))
                obtain ⟨v476, ee477⟩ : ∃ z : Int32, f446 47 = z := ⟨_, rfl⟩
                have b478 : Bd v476 (0) (6) := (by rw [← ee477]; exact b448.2.2.2.2.2.1 47 (by decide))
                have q479 : elm (S444 7) 47 = v476.toInt := (elm_of c447 47).trans (congrArg Int32.toInt (ee477))
                have q480 : elm (S432 7) 49 = v45.toInt := (elm_of c435 49).trans (congrArg Int32.toInt (ee46))
                obtain ⟨v481, ee482⟩ : ∃ z : Int32, f446 49 = z := ⟨_, rfl⟩
                have b483 : Bd v481 (0) (40) := (by rw [← ee482]; exact b448.2.2.2.2.2.2.2 49 (by decide))
                have q484 : elm (S444 7) 49 = v481.toInt := (elm_of c447 49).trans (congrArg Int32.toInt (ee482))
                refine lv_goto (tgt := 191) hx hb dX12_line_176 (by decide) ?_
                have c485 : S444 0 = .inr (12, [.int v395, .ref (ad 1), .ref (ad 2), .ref (ad 3), .ref (ad 4), .ref (ad 5), .int v396, .int v398, .int v400, .int v402, .int v403, .long w404, .int v405, .int v407, .int v408, .int v409, .ref (ad 6), .ref (ad 7), .ref (ad 8), .ref (ad 9), .ref (ad 10), .ref (ad 11), .ref (ad 12), .ref (ad 13), .ref (ad 14), .ref (ad 15), .int v410, .int v412, .ref (ad 16), .int v414, .int v416, .int v418, .int v420, .int v421, .ref (ad 17), .ref (ad 18), .int v422, .ref (ad 19)]) := ((o444 0 (by decide)).trans c437)
                have q486 : fld (S444 0) 6 = v396.toInt := fld_of c485 rfl
                have q487 : fld (S444 0) 7 = v398.toInt := fld_of c485 rfl
                have q488 : fld (S444 0) 8 = v400.toInt := fld_of c485 rfl
                have q489 : elm (S 7) 41 = v39.toInt := (elm_of c31 41).trans (congrArg Int32.toInt (ee40))
                have q490 : elm (S 7) 43 = v42.toInt := (elm_of c31 43).trans (congrArg Int32.toInt (ee43))
                have q491 : elm (S 7) 49 = v45.toInt := (elm_of c31 49).trans (congrArg Int32.toInt (ee46))
                exact xrv E hr hlk hQ (⟨hI, (o_trans (up_o (o_trans (o_trans (o_trans (o_trans (o_trans (o_trans (o_trans o_refl o56 (by decide)) o95 (by decide)) o133 (by decide)) o193 (by decide)) o252 (by decide)) o352 (by decide)) o394 (by decide)) eS432 (by decide)) o444 (by decide)), (by omega), ⟨by omega, by omega⟩, (by omega), ⟨by omega, by omega⟩, ⟨by omega, by omega⟩, ⟨by omega, by omega⟩, ⟨by omega, by omega⟩, (ht_fr hHT (by show elm _ 40 = elm _ 40; omega) (by show elm _ 46 = elm _ 46; omega) ((o444 9 (by decide)).trans ((up_eq (j := 9) eS432 (by decide)).trans ((o394 9 (by decide)).trans ((o352 9 (by decide)).trans ((o252 9 (by decide)).trans ((o193 9 (by decide)).trans ((o133 9 (by decide)).trans ((o95 9 (by decide)).trans (o56 9 (by decide))))))))))), ef445, (ef_tr ef9_0 ((o444 9 (by decide)).trans ((up_eq (j := 9) eS432 (by decide)).trans ((o394 9 (by decide)).trans ((o352 9 (by decide)).trans ((o252 9 (by decide)).trans ((o193 9 (by decide)).trans ((o133 9 (by decide)).trans ((o95 9 (by decide)).trans (o56 9 (by decide)))))))))))⟩) dX12_line_191
          · have h492 := ib_ne k231
            have b493 : Bd r193 (1) (1) := rf_nlo b193 (by decide : Bd 0 (0) (0)) h492
            have g494 := g193_3.resolve_left (by omega)
            clear g193_3
            have b495 : Bd v227 (0) (5) := ⟨(b229).1, by omega⟩
            refine lv_aload_n hx hb dX12_line_106 rfl (lv_at hl 0 rfl) ?_
            have q496 : elm (S193 7) 40 = v33.toInt := (elm_of c226 40).trans (congrArg Int32.toInt (ee34))
            obtain ⟨v497, ee498⟩ : ∃ z : Int32, f30 48 = z := ⟨_, rfl⟩
            have b499 : Bd v497 (0) (3) := (by rw [← ee498]; exact b32.2.2.2.2.2.2.1 48 (by decide))
            refine xcVv E hs hQ hml hl.1 0 (gX12_ruleLine_0 l g ad hD S193 hI (by omega) (by omega) (by omega)) mX12_ruleLine q1720 (by decide) c222 rfl rfl ⟨(Nat.le_of_ble_eq_true rfl), (Nat.le_of_ble_eq_true rfl)⟩ ⟨(Nat.le_of_ble_eq_true rfl), (Nat.le_of_ble_eq_true rfl)⟩ (Nat.le_of_ble_eq_true rfl) rfl dX12_line_107 (fun S500 H locs hp500 hQ _ => ?_)
            obtain ⟨hI, o500, g500_0, g500_1, g500_2, g500_3, g500_4, g500_5, g500_6, g500_7, g500_8, ef500_7⟩ := hp500
            have ef501 : EFp (S500 7) (S 7) 0 40 := ef_tt ef500_7 (ef_tr ef7_0 ((o193 7 (by decide)).trans ((o133 7 (by decide)).trans ((o95 7 (by decide)).trans (o56 7 (by decide))))))
            obtain ⟨v502, v503, v505, v507, v509, v510, w511, v512, v514, v515, v516, v517, v519, v521, v523, v525, v527, v528, v529, c530, b504, b506, b508, b513, b518, b520, b522, b524, b526⟩ := invM_0 hI
            have c530 : S500 0 = .inr (12, [.int v502, .ref (ad 1), .ref (ad 2), .ref (ad 3), .ref (ad 4), .ref (ad 5), .int v503, .int v505, .int v507, .int v509, .int v510, .long w511, .int v512, .int v514, .int v515, .int v516, .ref (ad 6), .ref (ad 7), .ref (ad 8), .ref (ad 9), .ref (ad 10), .ref (ad 11), .ref (ad 12), .ref (ad 13), .ref (ad 14), .ref (ad 15), .int v517, .int v519, .ref (ad 16), .int v521, .int v523, .int v525, .int v527, .int v528, .ref (ad 17), .ref (ad 18), .int v529, .ref (ad 19)]) := c530
            have q531 : fld (S500 0) 6 = v503.toInt := fld_of c530 rfl
            have q532 : fld (S500 0) 7 = v505.toInt := fld_of c530 rfl
            have q533 : fld (S500 0) 8 = v507.toInt := fld_of c530 rfl
            obtain ⟨f534, c535, b536⟩ := invM_7 hI
            obtain ⟨v537, ee538⟩ : ∃ z : Int32, f534 40 = z := ⟨_, rfl⟩
            have b539 : Bd v537 (0) (12) := (by rw [← ee538]; exact b536.1 40 (by decide))
            have q540 : elm (S500 7) 40 = v537.toInt := (elm_of c535 40).trans (congrArg Int32.toInt (ee538))
            have b541 : Bd v537 (1) (12) := ⟨by omega, (b539).2⟩
            have q542 : elm (S193 7) 41 = v39.toInt := (elm_of c226 41).trans (congrArg Int32.toInt (ee40))
            obtain ⟨v543, ee544⟩ : ∃ z : Int32, f534 41 = z := ⟨_, rfl⟩
            have b545 : Bd v543 (0) (12) := (by rw [← ee544]; exact b536.2.1 41 (by decide))
            have q546 : elm (S500 7) 41 = v543.toInt := (elm_of c535 41).trans (congrArg Int32.toInt (ee544))
            have q547 : elm (S193 7) 43 = v42.toInt := (elm_of c226 43).trans (congrArg Int32.toInt (ee43))
            obtain ⟨v548, ee549⟩ : ∃ z : Int32, f534 43 = z := ⟨_, rfl⟩
            have b550 : Bd v548 (0) (12) := (by rw [← ee549]; exact b536.2.2.2.1 43 (by decide))
            have q551 : elm (S500 7) 43 = v548.toInt := (elm_of c535 43).trans (congrArg Int32.toInt (ee549))
            have q552 : elm (S193 7) 46 = v36.toInt := (elm_of c226 46).trans (congrArg Int32.toInt (ee37))
            obtain ⟨v553, ee554⟩ : ∃ z : Int32, f534 46 = z := ⟨_, rfl⟩
            have b555 : Bd v553 (0) (8) := (by rw [← ee554]; exact b536.2.2.2.2.1 46 (by decide))
            have q556 : elm (S500 7) 46 = v553.toInt := (elm_of c535 46).trans (congrArg Int32.toInt (ee554))
            have q557 : elm (S193 7) 48 = v497.toInt := (elm_of c226 48).trans (congrArg Int32.toInt (ee498))
            obtain ⟨v558, ee559⟩ : ∃ z : Int32, f534 48 = z := ⟨_, rfl⟩
            have b560 : Bd v558 (0) (3) := (by rw [← ee559]; exact b536.2.2.2.2.2.2.1 48 (by decide))
            have q561 : elm (S500 7) 48 = v558.toInt := (elm_of c535 48).trans (congrArg Int32.toInt (ee559))
            have q562 : elm (S193 7) 49 = v45.toInt := (elm_of c226 49).trans (congrArg Int32.toInt (ee46))
            obtain ⟨v563, ee564⟩ : ∃ z : Int32, f534 49 = z := ⟨_, rfl⟩
            have b565 : Bd v563 (0) (40) := (by rw [← ee564]; exact b536.2.2.2.2.2.2.2 49 (by decide))
            have q566 : elm (S500 7) 49 = v563.toInt := (elm_of c535 49).trans (congrArg Int32.toInt (ee564))
            refine lv_goto (tgt := 191) hx hb dX12_line_110 (by decide) ?_
            have q567 : elm (S 7) 41 = v39.toInt := (elm_of c31 41).trans (congrArg Int32.toInt (ee40))
            have q568 : elm (S 7) 43 = v42.toInt := (elm_of c31 43).trans (congrArg Int32.toInt (ee43))
            have q569 : elm (S 7) 49 = v45.toInt := (elm_of c31 49).trans (congrArg Int32.toInt (ee46))
            exact xrv E hr hlk hQ (⟨hI, (o_trans (o_trans (o_trans (o_trans (o_trans o_refl o56 (by decide)) o95 (by decide)) o133 (by decide)) o193 (by decide)) o500 (by decide)), (by omega), ⟨by omega, by omega⟩, (by omega), ⟨by omega, by omega⟩, ⟨by omega, by omega⟩, ⟨by omega, by omega⟩, ⟨by omega, by omega⟩, (ht_fr hHT (by show elm _ 40 = elm _ 40; omega) (by show elm _ 46 = elm _ 46; omega) ((o500 9 (by decide)).trans ((o193 9 (by decide)).trans ((o133 9 (by decide)).trans ((o95 9 (by decide)).trans (o56 9 (by decide))))))), ef501, (ef_tr ef9_0 ((o500 9 (by decide)).trans ((o193 9 (by decide)).trans ((o133 9 (by decide)).trans ((o95 9 (by decide)).trans (o56 9 (by decide)))))))⟩) dX12_line_191
      · have h570 := ib_ne k168
        have b571 : Bd r133 (1) (1) := rf_nlo b133 (by decide : Bd 0 (0) (0)) h570
        have g572 := g133_3.resolve_left (by omega)
        clear g133_3
        have b573 : Bd v36 (0) (7) := ⟨(b38).1, by omega⟩
        refine lv_aload_n hx hb dX12_line_74 rfl (lv_at hl 0 rfl) ?_
        have q574 : elm (S133 7) 40 = v33.toInt := (elm_of c166 40).trans (congrArg Int32.toInt (ee34))
        obtain ⟨v575, ee576⟩ : ∃ z : Int32, f30 47 = z := ⟨_, rfl⟩
        have b577 : Bd v575 (0) (6) := (by rw [← ee576]; exact b32.2.2.2.2.2.1 47 (by decide))
        obtain ⟨v578, ee579⟩ : ∃ z : Int32, f30 48 = z := ⟨_, rfl⟩
        have b580 : Bd v578 (0) (3) := (by rw [← ee579]; exact b32.2.2.2.2.2.2.1 48 (by decide))
        refine xcVv E hs hQ hml hl.1 0 (gX12_thingLine_0 l g ad hD S133 hI (by omega) (by omega) (by omega) (ht_tr hHT ((o133 7 (by decide)).trans ((o95 7 (by decide)).trans (o56 7 (by decide)))) ((o133 9 (by decide)).trans ((o95 9 (by decide)).trans (o56 9 (by decide)))))) mX12_thingLine q1712 (by decide) c162 rfl rfl ⟨(Nat.le_of_ble_eq_true rfl), (Nat.le_of_ble_eq_true rfl)⟩ ⟨(Nat.le_of_ble_eq_true rfl), (Nat.le_of_ble_eq_true rfl)⟩ (Nat.le_of_ble_eq_true rfl) rfl dX12_line_75 (fun S581 H locs hp581 hQ _ => ?_)
        obtain ⟨hI, o581, g581_0, g581_1, g581_2, g581_3, g581_4, g581_5, g581_6, g581_7, g581_8, g581_9, u581_0, ef581_7, ef581_9⟩ := hp581
        have ef582 : EFp (S581 7) (S 7) 0 40 := ef_tt ef581_7 (ef_tr ef7_0 ((o133 7 (by decide)).trans ((o95 7 (by decide)).trans (o56 7 (by decide)))))
        have ef583 : EFp (S581 9) (S 9) 0 96 := ef_tt ef581_9 (ef_tr ef9_0 ((o133 9 (by decide)).trans ((o95 9 (by decide)).trans (o56 9 (by decide)))))
        obtain ⟨v584, v585, v587, v589, v591, v592, w593, v594, v596, v597, v598, v599, v601, v603, v605, v607, v609, v610, v611, c612, b586, b588, b590, b595, b600, b602, b604, b606, b608⟩ := invM_0 hI
        have c612 : S581 0 = .inr (12, [.int v584, .ref (ad 1), .ref (ad 2), .ref (ad 3), .ref (ad 4), .ref (ad 5), .int v585, .int v587, .int v589, .int v591, .int v592, .long w593, .int v594, .int v596, .int v597, .int v598, .ref (ad 6), .ref (ad 7), .ref (ad 8), .ref (ad 9), .ref (ad 10), .ref (ad 11), .ref (ad 12), .ref (ad 13), .ref (ad 14), .ref (ad 15), .int v599, .int v601, .ref (ad 16), .int v603, .int v605, .int v607, .int v609, .int v610, .ref (ad 17), .ref (ad 18), .int v611, .ref (ad 19)]) := c612
        have q613 : fld (S581 0) 6 = v585.toInt := fld_of c612 rfl
        have q614 : fld (S581 0) 7 = v587.toInt := fld_of c612 rfl
        have q615 : fld (S581 0) 8 = v589.toInt := fld_of c612 rfl
        obtain ⟨f616, c617, b618⟩ := invM_7 hI
        obtain ⟨v619, ee620⟩ : ∃ z : Int32, f616 40 = z := ⟨_, rfl⟩
        have b621 : Bd v619 (0) (12) := (by rw [← ee620]; exact b618.1 40 (by decide))
        have q622 : elm (S581 7) 40 = v619.toInt := (elm_of c617 40).trans (congrArg Int32.toInt (ee620))
        have b623 : Bd v619 (1) (12) := ⟨by omega, (b621).2⟩
        have q624 : elm (S133 7) 41 = v39.toInt := (elm_of c166 41).trans (congrArg Int32.toInt (ee40))
        obtain ⟨v625, ee626⟩ : ∃ z : Int32, f616 41 = z := ⟨_, rfl⟩
        have b627 : Bd v625 (0) (12) := (by rw [← ee626]; exact b618.2.1 41 (by decide))
        have q628 : elm (S581 7) 41 = v625.toInt := (elm_of c617 41).trans (congrArg Int32.toInt (ee626))
        have q629 : elm (S133 7) 43 = v42.toInt := (elm_of c166 43).trans (congrArg Int32.toInt (ee43))
        obtain ⟨v630, ee631⟩ : ∃ z : Int32, f616 43 = z := ⟨_, rfl⟩
        have b632 : Bd v630 (0) (12) := (by rw [← ee631]; exact b618.2.2.2.1 43 (by decide))
        have q633 : elm (S581 7) 43 = v630.toInt := (elm_of c617 43).trans (congrArg Int32.toInt (ee631))
        have q634 : elm (S133 7) 47 = v575.toInt := (elm_of c166 47).trans (congrArg Int32.toInt (ee576))
        obtain ⟨v635, ee636⟩ : ∃ z : Int32, f616 47 = z := ⟨_, rfl⟩
        have b637 : Bd v635 (0) (6) := (by rw [← ee636]; exact b618.2.2.2.2.2.1 47 (by decide))
        have q638 : elm (S581 7) 47 = v635.toInt := (elm_of c617 47).trans (congrArg Int32.toInt (ee636))
        have q639 : elm (S133 7) 48 = v578.toInt := (elm_of c166 48).trans (congrArg Int32.toInt (ee579))
        obtain ⟨v640, ee641⟩ : ∃ z : Int32, f616 48 = z := ⟨_, rfl⟩
        have b642 : Bd v640 (0) (3) := (by rw [← ee641]; exact b618.2.2.2.2.2.2.1 48 (by decide))
        have q643 : elm (S581 7) 48 = v640.toInt := (elm_of c617 48).trans (congrArg Int32.toInt (ee641))
        have q644 : elm (S133 7) 49 = v45.toInt := (elm_of c166 49).trans (congrArg Int32.toInt (ee46))
        obtain ⟨v645, ee646⟩ : ∃ z : Int32, f616 49 = z := ⟨_, rfl⟩
        have b647 : Bd v645 (0) (40) := (by rw [← ee646]; exact b618.2.2.2.2.2.2.2 49 (by decide))
        have q648 : elm (S581 7) 49 = v645.toInt := (elm_of c617 49).trans (congrArg Int32.toInt (ee646))
        obtain ⟨v649, ee650⟩ : ∃ z : Int32, f616 46 = z := ⟨_, rfl⟩
        have b651 : Bd v649 (0) (8) := (by rw [← ee650]; exact b618.2.2.2.2.1 46 (by decide))
        have q652 : elm (S581 7) 46 = v649.toInt := (elm_of c617 46).trans (congrArg Int32.toInt (ee650))
        have b653 : Bd v649 (1) (8) := ⟨by omega, (b651).2⟩
        refine lv_goto (tgt := 191) hx hb dX12_line_78 (by decide) ?_
        have q654 : elm (S 7) 41 = v39.toInt := (elm_of c31 41).trans (congrArg Int32.toInt (ee40))
        have q655 : elm (S 7) 43 = v42.toInt := (elm_of c31 43).trans (congrArg Int32.toInt (ee43))
        have q656 : elm (S 7) 49 = v45.toInt := (elm_of c31 49).trans (congrArg Int32.toInt (ee46))
        exact xrv E hr hlk hQ (⟨hI, (o_trans (o_trans (o_trans (o_trans o_refl o56 (by decide)) o95 (by decide)) o133 (by decide)) o581 (by decide)), (by omega), ⟨by omega, by omega⟩, (by omega), ⟨by omega, by omega⟩, ⟨by omega, by omega⟩, ⟨by omega, by omega⟩, ⟨by omega, by omega⟩, u581_0, ef582, ef583⟩) dX12_line_191
    · have h657 := ib_ne k129
      have b658 : Bd r95 (1) (1) := rf_nlo b95 (by decide : Bd 0 (0) (0)) h657
      have g659 := g95_4.resolve_left (by omega)
      clear g95_4
      refine lv_aload_n hx hb dX12_line_27 rfl (lv_at hl 0 rfl) ?_
      have c660 : S95 7 = .inl (g.2 0, 50, .inl f30) := ((o95 7 (by decide)).trans ((o56 7 (by decide)).trans c31))
      have q661 : elm (S95 7) 40 = v33.toInt := (elm_of c660 40).trans (congrArg Int32.toInt (ee34))
      refine xcVi E hs hQ hml hl.1 0 (gX12_cellHere_0 l g ad hD S95 hI (by omega) (by omega)) mX12_cellHere q1693 (by decide) c124 rfl rfl ⟨(Nat.le_of_ble_eq_true rfl), (Nat.le_of_ble_eq_true rfl)⟩ ⟨(Nat.le_of_ble_eq_true rfl), (Nat.le_of_ble_eq_true rfl)⟩ (Nat.le_of_ble_eq_true rfl) rfl dX12_line_28 (fun r662 S662 H locs hp662 hQ _ => ?_)
      obtain ⟨hI, o662, b662, g662_0, g662_1, g662_2, g662_3⟩ := hp662
      obtain ⟨v663, v664, v666, v668, v670, v671, w672, v673, v675, v676, v677, v678, v680, v682, v684, v686, v688, v689, v690, c691, b665, b667, b669, b674, b679, b681, b683, b685, b687⟩ := invM_0 hI
      have c691 : S662 0 = .inr (12, [.int v663, .ref (ad 1), .ref (ad 2), .ref (ad 3), .ref (ad 4), .ref (ad 5), .int v664, .int v666, .int v668, .int v670, .int v671, .long w672, .int v673, .int v675, .int v676, .int v677, .ref (ad 6), .ref (ad 7), .ref (ad 8), .ref (ad 9), .ref (ad 10), .ref (ad 11), .ref (ad 12), .ref (ad 13), .ref (ad 14), .ref (ad 15), .int v678, .int v680, .ref (ad 16), .int v682, .int v684, .int v686, .int v688, .int v689, .ref (ad 17), .ref (ad 18), .int v690, .ref (ad 19)]) := c691
      have q692 : fld (S662 0) 6 = v664.toInt := fld_of c691 rfl
      have q693 : fld (S662 0) 7 = v666.toInt := fld_of c691 rfl
      have q694 : fld (S662 0) 8 = v668.toInt := fld_of c691 rfl
      have c695 : S662 7 = .inl (g.2 0, 50, .inl f30) := ((o662 7 (by decide)).trans c660)
      have q696 : elm (S662 7) 40 = v33.toInt := (elm_of c695 40).trans (congrArg Int32.toInt (ee34))
      refine lv_istore_n (lv' := [(1, .int r662), (0, .ref (ad 0))]) hx hb dX12_line_31 rfl hl (by decide) rfl (fun ls hl => ?_)
      refine lv_aload_n hx hb dX12_line_32 rfl (lv_at hl 1 rfl) ?_
      refine xcVi E hs hQ hml hl.1 0 (gX12_isGood_0 l g ad hD S662 hI ) mX12_isGood q1650 (by decide) c691 rfl rfl ⟨(Nat.le_of_ble_eq_true rfl), (Nat.le_of_ble_eq_true rfl)⟩ ⟨(Nat.le_of_ble_eq_true rfl), (Nat.le_of_ble_eq_true rfl)⟩ (Nat.le_of_ble_eq_true rfl) rfl dX12_line_33 (fun r697 S697 H locs hp697 hQ _ => ?_)
      obtain ⟨rfl, b697, g697_0, g697_1⟩ := hp697
      have q698 : fld (S662 0) 12 = v673.toInt := fld_of c691 rfl
      refine lv_if_eq (tgt := 53) hx hb dX12_line_36 (by decide) (fun k699 => ?_) (fun k699 => ?_)
      · have h700 := ib_eq k699
        have b701 : Bd r697 (0) (0) := ⟨(b697).1, ((rf_eq b697 (by decide : Bd 0 (0) (0)) h700).1).2⟩
        clear g697_0
        have g702 := g697_1.resolve_left (by omega)
        clear g697_1
        have b703 : Bd v673 (1) (3) := ⟨by omega, (b674).2⟩
        refine lv_goto (tgt := 191) hx hb dX12_line_53 (by decide) ?_
        have q704 : elm (S 7) 41 = v39.toInt := (elm_of c31 41).trans (congrArg Int32.toInt (ee40))
        have q705 : elm (S662 7) 41 = v39.toInt := (elm_of c695 41).trans (congrArg Int32.toInt (ee40))
        have q706 : elm (S 7) 43 = v42.toInt := (elm_of c31 43).trans (congrArg Int32.toInt (ee43))
        have q707 : elm (S662 7) 43 = v42.toInt := (elm_of c695 43).trans (congrArg Int32.toInt (ee43))
        have q708 : elm (S 7) 49 = v45.toInt := (elm_of c31 49).trans (congrArg Int32.toInt (ee46))
        have q709 : elm (S662 7) 49 = v45.toInt := (elm_of c695 49).trans (congrArg Int32.toInt (ee46))
        exact xrv E hr hlk hQ (⟨hI, (o_trans (o_trans (o_trans o_refl o56 (by decide)) o95 (by decide)) o662 (by decide)), (by omega), ⟨by omega, by omega⟩, (by omega), ⟨by omega, by omega⟩, ⟨by omega, by omega⟩, ⟨by omega, by omega⟩, ⟨by omega, by omega⟩, (ht_tr hHT ((o662 7 (by decide)).trans ((o95 7 (by decide)).trans (o56 7 (by decide)))) ((o662 9 (by decide)).trans ((o95 9 (by decide)).trans (o56 9 (by decide))))), (ef_tr ef7_0 ((o662 7 (by decide)).trans ((o95 7 (by decide)).trans (o56 7 (by decide))))), (ef_tr ef9_0 ((o662 9 (by decide)).trans ((o95 9 (by decide)).trans (o56 9 (by decide)))))⟩) dX12_line_191
      · have h710 := ib_ne k699
        have b711 : Bd r697 (1) (1) := rf_nlo b697 (by decide : Bd 0 (0) (0)) h710
        have g712 := g697_0.resolve_left (by omega)
        clear g697_0
        have b713 : Bd v673 (0) (0) := ⟨(b674).1, by omega⟩
        clear g697_1
        refine lv_aload_n hx hb dX12_line_39 rfl (lv_at hl 1 rfl) ?_
        refine lv_iconst (v := 5) hx hb dX12_line_40 (by decide) ?_
        refine lv_aload_n hx hb dX12_line_41 rfl (lv_at hl 1 rfl) ?_
        refine lv_iconst (v := 5) hx hb dX12_line_42 (by decide) ?_
        refine xcVi E hs hQ hml hl.1 0 (gX12_hasRead_5 l g ad hD S662 hI ) mX12_hasRead q1697 (by decide) c691 rfl rfl ⟨(Nat.le_of_ble_eq_true rfl), (Nat.le_of_ble_eq_true rfl)⟩ ⟨(Nat.le_of_ble_eq_true rfl), (Nat.le_of_ble_eq_true rfl)⟩ (Nat.le_of_ble_eq_true rfl) rfl dX12_line_43 (fun r714 S714 H locs hp714 hQ _ => ?_)
        subst hp714
        refine lv_iconst (v := 1) hx hb dX12_line_46 (by decide) ?_
        refine lv_iload_n hx hb dX12_line_47 rfl (lv_at hl 0 rfl) ?_
        refine lv_ishl hx hb dX12_line_48 ?_
        refine lv_topi (fun z715 e716 => ?_)
        refine lv_ior hx hb dX12_line_49 ?_
        refine lv_topi (fun z717 e718 => ?_)
        obtain ⟨v719, ee720⟩ : ∃ z : Int32, f30 47 = z := ⟨_, rfl⟩
        have b721 : Bd v719 (0) (6) := (by rw [← ee720]; exact b32.2.2.2.2.2.1 47 (by decide))
        obtain ⟨v722, ee723⟩ : ∃ z : Int32, f30 48 = z := ⟨_, rfl⟩
        have b724 : Bd v722 (0) (3) := (by rw [← ee723]; exact b32.2.2.2.2.2.2.1 48 (by decide))
        refine xcVv E hs hQ hml hl.1 0 (gX12_tells_5 l g ad hD S662 hI z717) mX12_tells q1629 (by decide) c691 rfl rfl ⟨(Nat.le_of_ble_eq_true rfl), (Nat.le_of_ble_eq_true rfl)⟩ ⟨(Nat.le_of_ble_eq_true rfl), (Nat.le_of_ble_eq_true rfl)⟩ (Nat.le_of_ble_eq_true rfl) rfl dX12_line_50 (fun S725 H locs hp725 hQ _ => ?_)
        obtain ⟨hI, o725, g725_0, g725_1, g725_2, g725_3, g725_4, g725_5, g725_6, ef725_7⟩ := hp725
        have ef726 : EFp (S725 7) (S 7) 0 40 := ef_tt ef725_7 (ef_tr ef7_0 ((o662 7 (by decide)).trans ((o95 7 (by decide)).trans (o56 7 (by decide)))))
        obtain ⟨f727, c728, b729⟩ := invM_7 hI
        obtain ⟨v730, ee731⟩ : ∃ z : Int32, f727 40 = z := ⟨_, rfl⟩
        have b732 : Bd v730 (0) (12) := (by rw [← ee731]; exact b729.1 40 (by decide))
        have q733 : elm (S725 7) 40 = v730.toInt := (elm_of c728 40).trans (congrArg Int32.toInt (ee731))
        have b734 : Bd v730 (1) (12) := ⟨by omega, (b732).2⟩
        have q735 : elm (S662 7) 41 = v39.toInt := (elm_of c695 41).trans (congrArg Int32.toInt (ee40))
        obtain ⟨v736, ee737⟩ : ∃ z : Int32, f727 41 = z := ⟨_, rfl⟩
        have b738 : Bd v736 (0) (12) := (by rw [← ee737]; exact b729.2.1 41 (by decide))
        have q739 : elm (S725 7) 41 = v736.toInt := (elm_of c728 41).trans (congrArg Int32.toInt (ee737))
        have q740 : elm (S662 7) 43 = v42.toInt := (elm_of c695 43).trans (congrArg Int32.toInt (ee43))
        obtain ⟨v741, ee742⟩ : ∃ z : Int32, f727 43 = z := ⟨_, rfl⟩
        have b743 : Bd v741 (0) (12) := (by rw [← ee742]; exact b729.2.2.2.1 43 (by decide))
        have q744 : elm (S725 7) 43 = v741.toInt := (elm_of c728 43).trans (congrArg Int32.toInt (ee742))
        have q745 : elm (S662 7) 46 = v36.toInt := (elm_of c695 46).trans (congrArg Int32.toInt (ee37))
        obtain ⟨v746, ee747⟩ : ∃ z : Int32, f727 46 = z := ⟨_, rfl⟩
        have b748 : Bd v746 (0) (8) := (by rw [← ee747]; exact b729.2.2.2.2.1 46 (by decide))
        have q749 : elm (S725 7) 46 = v746.toInt := (elm_of c728 46).trans (congrArg Int32.toInt (ee747))
        have q750 : elm (S662 7) 47 = v719.toInt := (elm_of c695 47).trans (congrArg Int32.toInt (ee720))
        obtain ⟨v751, ee752⟩ : ∃ z : Int32, f727 47 = z := ⟨_, rfl⟩
        have b753 : Bd v751 (0) (6) := (by rw [← ee752]; exact b729.2.2.2.2.2.1 47 (by decide))
        have q754 : elm (S725 7) 47 = v751.toInt := (elm_of c728 47).trans (congrArg Int32.toInt (ee752))
        have q755 : elm (S662 7) 48 = v722.toInt := (elm_of c695 48).trans (congrArg Int32.toInt (ee723))
        obtain ⟨v756, ee757⟩ : ∃ z : Int32, f727 48 = z := ⟨_, rfl⟩
        have b758 : Bd v756 (0) (3) := (by rw [← ee757]; exact b729.2.2.2.2.2.2.1 48 (by decide))
        have q759 : elm (S725 7) 48 = v756.toInt := (elm_of c728 48).trans (congrArg Int32.toInt (ee757))
        have q760 : elm (S662 7) 49 = v45.toInt := (elm_of c695 49).trans (congrArg Int32.toInt (ee46))
        obtain ⟨v761, ee762⟩ : ∃ z : Int32, f727 49 = z := ⟨_, rfl⟩
        have b763 : Bd v761 (0) (40) := (by rw [← ee762]; exact b729.2.2.2.2.2.2.2 49 (by decide))
        have q764 : elm (S725 7) 49 = v761.toInt := (elm_of c728 49).trans (congrArg Int32.toInt (ee762))
        refine lv_goto (tgt := 191) hx hb dX12_line_53 (by decide) ?_
        have c765 : S725 0 = .inr (12, [.int v663, .ref (ad 1), .ref (ad 2), .ref (ad 3), .ref (ad 4), .ref (ad 5), .int v664, .int v666, .int v668, .int v670, .int v671, .long w672, .int v673, .int v675, .int v676, .int v677, .ref (ad 6), .ref (ad 7), .ref (ad 8), .ref (ad 9), .ref (ad 10), .ref (ad 11), .ref (ad 12), .ref (ad 13), .ref (ad 14), .ref (ad 15), .int v678, .int v680, .ref (ad 16), .int v682, .int v684, .int v686, .int v688, .int v689, .ref (ad 17), .ref (ad 18), .int v690, .ref (ad 19)]) := ((o725 0 (by decide)).trans c691)
        have q766 : fld (S725 0) 6 = v664.toInt := fld_of c765 rfl
        have q767 : fld (S725 0) 7 = v666.toInt := fld_of c765 rfl
        have q768 : fld (S725 0) 8 = v668.toInt := fld_of c765 rfl
        have q769 : elm (S 7) 41 = v39.toInt := (elm_of c31 41).trans (congrArg Int32.toInt (ee40))
        have q770 : elm (S 7) 43 = v42.toInt := (elm_of c31 43).trans (congrArg Int32.toInt (ee43))
        have q771 : elm (S 7) 49 = v45.toInt := (elm_of c31 49).trans (congrArg Int32.toInt (ee46))
        exact xrv E hr hlk hQ (⟨hI, (o_trans (o_trans (o_trans (o_trans o_refl o56 (by decide)) o95 (by decide)) o662 (by decide)) o725 (by decide)), (by omega), ⟨by omega, by omega⟩, (by omega), ⟨by omega, by omega⟩, ⟨by omega, by omega⟩, ⟨by omega, by omega⟩, ⟨by omega, by omega⟩, (ht_fr hHT (by show elm _ 40 = elm _ 40; omega) (by show elm _ 46 = elm _ 46; omega) ((o725 9 (by decide)).trans ((o662 9 (by decide)).trans ((o95 9 (by decide)).trans (o56 9 (by decide)))))), ef726, (ef_tr ef9_0 ((o725 9 (by decide)).trans ((o662 9 (by decide)).trans ((o95 9 (by decide)).trans (o56 9 (by decide))))))⟩) dX12_line_191
  · have h772 := ib_ne k92
    have b773 : Bd r56 (1) (1) := rf_nlo b56 (by decide : Bd 0 (0) (0)) h772
    have g774 := g56_4.resolve_left (by omega)
    clear g56_4
    refine lv_aload_n hx hb dX12_line_10 rfl (lv_at hl 0 rfl) ?_
    have c775 : S56 7 = .inl (g.2 0, 50, .inl f30) := ((o56 7 (by decide)).trans c31)
    have q776 : elm (S56 7) 40 = v33.toInt := (elm_of c775 40).trans (congrArg Int32.toInt (ee34))
    refine xcVv E hs hQ hml hl.1 0 (gX12_currentLine_0 l g ad hD S56 hI (by omega) (by omega)) mX12_currentLine q1689 (by decide) c85 rfl rfl ⟨(Nat.le_of_ble_eq_true rfl), (Nat.le_of_ble_eq_true rfl)⟩ ⟨(Nat.le_of_ble_eq_true rfl), (Nat.le_of_ble_eq_true rfl)⟩ (Nat.le_of_ble_eq_true rfl) rfl dX12_line_11 (fun S777 H locs hp777 hQ _ => ?_)
    obtain ⟨hI, o777, g777_0, g777_1, g777_2⟩ := hp777
    obtain ⟨v778, v779, v781, v783, v785, v786, w787, v788, v790, v791, v792, v793, v795, v797, v799, v801, v803, v804, v805, c806, b780, b782, b784, b789, b794, b796, b798, b800, b802⟩ := invM_0 hI
    have c806 : S777 0 = .inr (12, [.int v778, .ref (ad 1), .ref (ad 2), .ref (ad 3), .ref (ad 4), .ref (ad 5), .int v779, .int v781, .int v783, .int v785, .int v786, .long w787, .int v788, .int v790, .int v791, .int v792, .ref (ad 6), .ref (ad 7), .ref (ad 8), .ref (ad 9), .ref (ad 10), .ref (ad 11), .ref (ad 12), .ref (ad 13), .ref (ad 14), .ref (ad 15), .int v793, .int v795, .ref (ad 16), .int v797, .int v799, .int v801, .int v803, .int v804, .ref (ad 17), .ref (ad 18), .int v805, .ref (ad 19)]) := c806
    have q807 : fld (S777 0) 6 = v779.toInt := fld_of c806 rfl
    have q808 : fld (S777 0) 7 = v781.toInt := fld_of c806 rfl
    have q809 : fld (S777 0) 8 = v783.toInt := fld_of c806 rfl
    refine lv_goto (tgt := 191) hx hb dX12_line_14 (by decide) ?_
    have c810 : S777 7 = .inl (g.2 0, 50, .inl f30) := ((o777 7 (by decide)).trans c775)
    have q811 : elm (S777 7) 40 = v33.toInt := (elm_of c810 40).trans (congrArg Int32.toInt (ee34))
    have q812 : elm (S 7) 41 = v39.toInt := (elm_of c31 41).trans (congrArg Int32.toInt (ee40))
    have q813 : elm (S777 7) 41 = v39.toInt := (elm_of c810 41).trans (congrArg Int32.toInt (ee40))
    have q814 : elm (S 7) 43 = v42.toInt := (elm_of c31 43).trans (congrArg Int32.toInt (ee43))
    have q815 : elm (S777 7) 43 = v42.toInt := (elm_of c810 43).trans (congrArg Int32.toInt (ee43))
    have q816 : elm (S 7) 49 = v45.toInt := (elm_of c31 49).trans (congrArg Int32.toInt (ee46))
    have q817 : elm (S777 7) 49 = v45.toInt := (elm_of c810 49).trans (congrArg Int32.toInt (ee46))
    exact xrv E hr hlk hQ (⟨hI, (o_trans (o_trans o_refl o56 (by decide)) o777 (by decide)), (by omega), ⟨by omega, by omega⟩, (by omega), ⟨by omega, by omega⟩, ⟨by omega, by omega⟩, ⟨by omega, by omega⟩, ⟨by omega, by omega⟩, (ht_tr hHT ((o777 7 (by decide)).trans (o56 7 (by decide))) ((o777 9 (by decide)).trans (o56 9 (by decide)))), (ef_tr ef7_0 ((o777 7 (by decide)).trans (o56 7 (by decide)))), (ef_tr ef9_0 ((o777 9 (by decide)).trans (o56 9 (by decide))))⟩) dX12_line_191
set_option maxHeartbeats 4000000 in
set_option maxRecDepth 100000 in
theorem gX12_clears_0 (l : Launch) (g : GG) (ad : Nat → Nat) (hD : Dj ad 20) (S : SS) (hI : InvM g ad S) : Met l yX12_clears (wG (.code yX12_clears cX12_clears 2 none)) (Rm 1) (XPre g ad 20 S [.ref (ad 0)]) (va_Qv (fun S' => InvM g ad S' ∧ (∀ j, j ∉ ([6, 7, 8] : List Nat) → S' j = S j) ∧ (0 ≤ (-1) * elm (S' 7) 40 ∧ 0 ≤ elm (S' 7) 40) ∧ (0 ≤ (-1) * elm (S' 7) 41 ∧ 0 ≤ elm (S' 7) 41) ∧ (0 ≤ (-1) * elm (S' 7) 43 ∧ 0 ≤ elm (S' 7) 43) ∧ (0 ≤ (-1) * elm (S' 7) 46 ∧ 0 ≤ elm (S' 7) 46) ∧ (0 ≤ (-1) * elm (S' 7) 47 ∧ 0 ≤ elm (S' 7) 47) ∧ (0 ≤ (-1) * elm (S' 7) 48 ∧ 0 ≤ elm (S' 7) 48) ∧ (0 ≤ (-1) * elm (S' 7) 49 ∧ 0 ≤ elm (S' 7) 49) ∧ (0 ≤ (-1) * elm (S' 6) 4 ∧ 0 ≤ elm (S' 6) 4) ∧ EFp (S' 7) (S 7) 0 40 ∧ EFp (S' 6) (S 6) 0 4) (QB g ad 20) (FA ad 20)) 0 0 (FA ad 20) := by
  refine xmet cX12_clears "EbbWreckModel" (by decide) rfl (Nat.le_of_ble_eq_true rfl) (fun p e s m below meth c E hr hlk hml hQ ls hl => ?_)
  have hx := E.1
  have hb := E.2.1
  have hs : Sp ad 20 (FA ad 20) := Sp.fa hD
  have hl : lv_has ls 2 [(0, .ref (ad 0))] := hl
  obtain ⟨f1, c2, b3⟩ := invM_7 hI
  obtain ⟨v4, ee5⟩ : ∃ z : Int32, f1 40 = z := ⟨_, rfl⟩
  have b6 : Bd v4 (0) (12) := (by rw [← ee5]; exact b3.1 40 (by decide))
  obtain ⟨v7, ee8⟩ : ∃ z : Int32, f1 41 = z := ⟨_, rfl⟩
  have b9 : Bd v7 (0) (12) := (by rw [← ee8]; exact b3.2.1 41 (by decide))
  obtain ⟨v10, ee11⟩ : ∃ z : Int32, f1 43 = z := ⟨_, rfl⟩
  have b12 : Bd v10 (0) (12) := (by rw [← ee11]; exact b3.2.2.2.1 43 (by decide))
  obtain ⟨v13, ee14⟩ : ∃ z : Int32, f1 46 = z := ⟨_, rfl⟩
  have b15 : Bd v13 (0) (8) := (by rw [← ee14]; exact b3.2.2.2.2.1 46 (by decide))
  obtain ⟨v16, ee17⟩ : ∃ z : Int32, f1 47 = z := ⟨_, rfl⟩
  have b18 : Bd v16 (0) (6) := (by rw [← ee17]; exact b3.2.2.2.2.2.1 47 (by decide))
  obtain ⟨v19, ee20⟩ : ∃ z : Int32, f1 48 = z := ⟨_, rfl⟩
  have b21 : Bd v19 (0) (3) := (by rw [← ee20]; exact b3.2.2.2.2.2.2.1 48 (by decide))
  obtain ⟨v22, ee23⟩ : ∃ z : Int32, f1 49 = z := ⟨_, rfl⟩
  have b24 : Bd v22 (0) (40) := (by rw [← ee23]; exact b3.2.2.2.2.2.2.2 49 (by decide))
  obtain ⟨f25, c26, b27⟩ := invM_6 hI
  obtain ⟨v28, ee29⟩ : ∃ z : Int32, f25 4 = z := ⟨_, rfl⟩
  have b30 : Bd v28 (0) (40000) := (by rw [← ee29]; exact b27 4)
  have ef7_0 : EFp (S 7) (S 7) 0 40 := fun _ _ _ => rfl
  have ef6_0 : EFp (S 6) (S 6) 0 4 := fun _ _ _ => rfl
  refine lv_aload_n hx hb dX12_clears_0 rfl (lv_at hl 0 rfl) ?_
  obtain ⟨v31, v32, v34, v36, v38, v39, w40, v41, v43, v44, v45, v46, v48, v50, v52, v54, v56, v57, v58, c59, b33, b35, b37, b42, b47, b49, b51, b53, b55⟩ := invM_0 hI
  have c59 : S 0 = .inr (12, [.int v31, .ref (ad 1), .ref (ad 2), .ref (ad 3), .ref (ad 4), .ref (ad 5), .int v32, .int v34, .int v36, .int v38, .int v39, .long w40, .int v41, .int v43, .int v44, .int v45, .ref (ad 6), .ref (ad 7), .ref (ad 8), .ref (ad 9), .ref (ad 10), .ref (ad 11), .ref (ad 12), .ref (ad 13), .ref (ad 14), .ref (ad 15), .int v46, .int v48, .ref (ad 16), .int v50, .int v52, .int v54, .int v56, .int v57, .ref (ad 17), .ref (ad 18), .int v58, .ref (ad 19)]) := c59
  refine xget E hQ 0 (by decide) c59 rfl 16 (by decide) q1484 rfl dX12_clears_1 ?_
  refine lv_iconst (v := 4) hx hb dX12_clears_4 (by decide) ?_
  refine lv_iconst (v := 0) hx hb dX12_clears_5 (by decide) ?_
  refine xiast E hs hQ 6 (by decide) c26 (vp_in_lit 4 5 (by decide)) dX12_clears_6 (fun H locs S60 eS60 hQ => ?_)
  have hI := invM_up_6 hI eS60 ⟨_, rfl, upd_b b27 (ib_wk (by decide : Bd 0 (0) (0)) (by decide) (by decide))⟩
  have b62 : ∀ j, Bd ((upd f25 (4 : Int32).toNatClampNeg 0) j) (0) (40000) := upd_b b27 (ib_wk (by decide : Bd 0 (0) (0)) (by decide) (by decide))
  have c61 : S60 6 = .inl (g.2 0, 5, .inl (upd f25 (4 : Int32).toNatClampNeg 0)) := up_at eS60 rfl
  have ef63 : EFp (S60 6) (S 6) 0 4 := ef_up ef6_0 c26 c61 (by decide)
  refine lv_iconst (v := 0) hx hb dX12_clears_7 (by decide) ?_
  refine lv_istore_n (lv' := [(1, .int 0), (0, .ref (ad 0))]) hx hb dX12_clears_8 rfl hl (by decide) rfl (fun ls hl => ?_)
  refine lv_iload_n hx hb dX12_clears_9 rfl (lv_at hl 0 rfl) ?_
  refine lv_bipush (v := 10) hx hb dX12_clears_10 (by decide) ?_
  refine lv_icmp_ge (tgt := 27) hx hb dX12_clears_12 (by decide) (fun k64 => ?_) (fun k64 => ?_)
  · have h65 := ib_le k64
    exact absurd h65 (by decide)
  · have h66 := ib_nle k64
    refine lv_aload_n hx hb dX12_clears_15 rfl (lv_at hl 1 rfl) ?_
    refine lv_iload_n hx hb dX12_clears_16 rfl (lv_at hl 0 rfl) ?_
    refine lv_iconst (v := 0) hx hb dX12_clears_17 (by decide) ?_
    have c67 : S60 7 = .inl (g.2 0, 50, .inl f1) := (up_ne eS60 (by decide) c2)
    have c69 : S60 0 = .inr (12, [.int v31, .ref (ad 1), .ref (ad 2), .ref (ad 3), .ref (ad 4), .ref (ad 5), .int v32, .int v34, .int v36, .int v38, .int v39, .long w40, .int v41, .int v43, .int v44, .int v45, .ref (ad 6), .ref (ad 7), .ref (ad 8), .ref (ad 9), .ref (ad 10), .ref (ad 11), .ref (ad 12), .ref (ad 13), .ref (ad 14), .ref (ad 15), .int v46, .int v48, .ref (ad 16), .int v50, .int v52, .int v54, .int v56, .int v57, .ref (ad 17), .ref (ad 18), .int v58, .ref (ad 19)]) := (up_ne eS60 (by decide) c59)
    refine xcVv E hs hQ hml hl.1 0 (gX12_tells_0 l g ad hD S60 hI 0 (ib_wk (by decide : Bd 0 (0) (0)) (by decide) (by decide))) mX12_tells q1629 (by decide) c69 rfl rfl ⟨(Nat.le_of_ble_eq_true rfl), (Nat.le_of_ble_eq_true rfl)⟩ ⟨(Nat.le_of_ble_eq_true rfl), (Nat.le_of_ble_eq_true rfl)⟩ (Nat.le_of_ble_eq_true rfl) rfl dX12_clears_18 (fun S68 H locs hp68 hQ _ => ?_)
    obtain ⟨hI, o68, g68_0, g68_1, g68_2, g68_3, g68_4, g68_5, g68_6, ef68_7⟩ := hp68
    have ef70 : EFp (S68 7) (S 7) 0 40 := ef_tt ef68_7 (ef_tr ef7_0 (up_eq (j := 7) eS60 (by decide)))
    have q71 : (0 : Int32).toInt = 0 := by decide
    obtain ⟨f72, c73, b74⟩ := invM_7 hI
    obtain ⟨v75, ee76⟩ : ∃ z : Int32, f72 40 = z := ⟨_, rfl⟩
    have b77 : Bd v75 (0) (12) := (by rw [← ee76]; exact b74.1 40 (by decide))
    have q78 : elm (S68 7) 40 = v75.toInt := (elm_of c73 40).trans (congrArg Int32.toInt (ee76))
    have b79 : Bd v75 (0) (0) := ⟨(b77).1, by omega⟩
    have q80 : elm (S60 7) 41 = v7.toInt := (elm_of c67 41).trans (congrArg Int32.toInt (ee8))
    obtain ⟨v81, ee82⟩ : ∃ z : Int32, f72 41 = z := ⟨_, rfl⟩
    have b83 : Bd v81 (0) (12) := (by rw [← ee82]; exact b74.2.1 41 (by decide))
    have q84 : elm (S68 7) 41 = v81.toInt := (elm_of c73 41).trans (congrArg Int32.toInt (ee82))
    have q85 : elm (S60 7) 43 = v10.toInt := (elm_of c67 43).trans (congrArg Int32.toInt (ee11))
    obtain ⟨v86, ee87⟩ : ∃ z : Int32, f72 43 = z := ⟨_, rfl⟩
    have b88 : Bd v86 (0) (12) := (by rw [← ee87]; exact b74.2.2.2.1 43 (by decide))
    have q89 : elm (S68 7) 43 = v86.toInt := (elm_of c73 43).trans (congrArg Int32.toInt (ee87))
    have q90 : elm (S60 7) 46 = v13.toInt := (elm_of c67 46).trans (congrArg Int32.toInt (ee14))
    obtain ⟨v91, ee92⟩ : ∃ z : Int32, f72 46 = z := ⟨_, rfl⟩
    have b93 : Bd v91 (0) (8) := (by rw [← ee92]; exact b74.2.2.2.2.1 46 (by decide))
    have q94 : elm (S68 7) 46 = v91.toInt := (elm_of c73 46).trans (congrArg Int32.toInt (ee92))
    have q95 : elm (S60 7) 47 = v16.toInt := (elm_of c67 47).trans (congrArg Int32.toInt (ee17))
    obtain ⟨v96, ee97⟩ : ∃ z : Int32, f72 47 = z := ⟨_, rfl⟩
    have b98 : Bd v96 (0) (6) := (by rw [← ee97]; exact b74.2.2.2.2.2.1 47 (by decide))
    have q99 : elm (S68 7) 47 = v96.toInt := (elm_of c73 47).trans (congrArg Int32.toInt (ee97))
    have q100 : elm (S60 7) 48 = v19.toInt := (elm_of c67 48).trans (congrArg Int32.toInt (ee20))
    obtain ⟨v101, ee102⟩ : ∃ z : Int32, f72 48 = z := ⟨_, rfl⟩
    have b103 : Bd v101 (0) (3) := (by rw [← ee102]; exact b74.2.2.2.2.2.2.1 48 (by decide))
    have q104 : elm (S68 7) 48 = v101.toInt := (elm_of c73 48).trans (congrArg Int32.toInt (ee102))
    have q105 : elm (S60 7) 49 = v22.toInt := (elm_of c67 49).trans (congrArg Int32.toInt (ee23))
    obtain ⟨v106, ee107⟩ : ∃ z : Int32, f72 49 = z := ⟨_, rfl⟩
    have b108 : Bd v106 (0) (40) := (by rw [← ee107]; exact b74.2.2.2.2.2.2.2 49 (by decide))
    have q109 : elm (S68 7) 49 = v106.toInt := (elm_of c73 49).trans (congrArg Int32.toInt (ee107))
    refine lv_iinc (v := 1) (lv' := [(1, .int 1), (0, .ref (ad 0))]) hx hb dX12_clears_21 hl (k := 0) rfl (by decide) (by decide) rfl (fun ls hl => ?_)
    refine lv_goto (tgt := 9) hx hb dX12_clears_24 (by decide) ?_
    refine lv_iload_n hx hb dX12_clears_9 rfl (lv_at hl 0 rfl) ?_
    refine lv_bipush (v := 10) hx hb dX12_clears_10 (by decide) ?_
    refine lv_icmp_ge (tgt := 27) hx hb dX12_clears_12 (by decide) (fun k110 => ?_) (fun k110 => ?_)
    · have h111 := ib_le k110
      exact absurd h111 (by decide)
    · have h112 := ib_nle k110
      refine lv_aload_n hx hb dX12_clears_15 rfl (lv_at hl 1 rfl) ?_
      refine lv_iload_n hx hb dX12_clears_16 rfl (lv_at hl 0 rfl) ?_
      refine lv_iconst (v := 0) hx hb dX12_clears_17 (by decide) ?_
      have c114 : S68 0 = .inr (12, [.int v31, .ref (ad 1), .ref (ad 2), .ref (ad 3), .ref (ad 4), .ref (ad 5), .int v32, .int v34, .int v36, .int v38, .int v39, .long w40, .int v41, .int v43, .int v44, .int v45, .ref (ad 6), .ref (ad 7), .ref (ad 8), .ref (ad 9), .ref (ad 10), .ref (ad 11), .ref (ad 12), .ref (ad 13), .ref (ad 14), .ref (ad 15), .int v46, .int v48, .ref (ad 16), .int v50, .int v52, .int v54, .int v56, .int v57, .ref (ad 17), .ref (ad 18), .int v58, .ref (ad 19)]) := ((o68 0 (by decide)).trans c69)
      refine xcVv E hs hQ hml hl.1 0 (gX12_tells_1 l g ad hD S68 hI 0 (ib_wk (by decide : Bd 0 (0) (0)) (by decide) (by decide))) mX12_tells q1629 (by decide) c114 rfl rfl ⟨(Nat.le_of_ble_eq_true rfl), (Nat.le_of_ble_eq_true rfl)⟩ ⟨(Nat.le_of_ble_eq_true rfl), (Nat.le_of_ble_eq_true rfl)⟩ (Nat.le_of_ble_eq_true rfl) rfl dX12_clears_18 (fun S113 H locs hp113 hQ _ => ?_)
      obtain ⟨hI, o113, g113_0, g113_1, g113_2, g113_3, g113_4, g113_5, g113_6, ef113_7⟩ := hp113
      have ef115 : EFp (S113 7) (S 7) 0 40 := ef_tt ef113_7 ef70
      obtain ⟨f116, c117, b118⟩ := invM_7 hI
      obtain ⟨v119, ee120⟩ : ∃ z : Int32, f116 41 = z := ⟨_, rfl⟩
      have b121 : Bd v119 (0) (12) := (by rw [← ee120]; exact b118.2.1 41 (by decide))
      have q122 : elm (S113 7) 41 = v119.toInt := (elm_of c117 41).trans (congrArg Int32.toInt (ee120))
      have b123 : Bd v119 (0) (0) := ⟨(b121).1, by omega⟩
      obtain ⟨v124, ee125⟩ : ∃ z : Int32, f116 40 = z := ⟨_, rfl⟩
      have b126 : Bd v124 (0) (12) := (by rw [← ee125]; exact b118.1 40 (by decide))
      have q127 : elm (S113 7) 40 = v124.toInt := (elm_of c117 40).trans (congrArg Int32.toInt (ee125))
      have b128 : Bd v124 (0) (0) := ⟨(b126).1, by omega⟩
      obtain ⟨v129, ee130⟩ : ∃ z : Int32, f116 43 = z := ⟨_, rfl⟩
      have b131 : Bd v129 (0) (12) := (by rw [← ee130]; exact b118.2.2.2.1 43 (by decide))
      have q132 : elm (S113 7) 43 = v129.toInt := (elm_of c117 43).trans (congrArg Int32.toInt (ee130))
      obtain ⟨v133, ee134⟩ : ∃ z : Int32, f116 46 = z := ⟨_, rfl⟩
      have b135 : Bd v133 (0) (8) := (by rw [← ee134]; exact b118.2.2.2.2.1 46 (by decide))
      have q136 : elm (S113 7) 46 = v133.toInt := (elm_of c117 46).trans (congrArg Int32.toInt (ee134))
      obtain ⟨v137, ee138⟩ : ∃ z : Int32, f116 47 = z := ⟨_, rfl⟩
      have b139 : Bd v137 (0) (6) := (by rw [← ee138]; exact b118.2.2.2.2.2.1 47 (by decide))
      have q140 : elm (S113 7) 47 = v137.toInt := (elm_of c117 47).trans (congrArg Int32.toInt (ee138))
      obtain ⟨v141, ee142⟩ : ∃ z : Int32, f116 48 = z := ⟨_, rfl⟩
      have b143 : Bd v141 (0) (3) := (by rw [← ee142]; exact b118.2.2.2.2.2.2.1 48 (by decide))
      have q144 : elm (S113 7) 48 = v141.toInt := (elm_of c117 48).trans (congrArg Int32.toInt (ee142))
      obtain ⟨v145, ee146⟩ : ∃ z : Int32, f116 49 = z := ⟨_, rfl⟩
      have b147 : Bd v145 (0) (40) := (by rw [← ee146]; exact b118.2.2.2.2.2.2.2 49 (by decide))
      have q148 : elm (S113 7) 49 = v145.toInt := (elm_of c117 49).trans (congrArg Int32.toInt (ee146))
      refine lv_iinc (v := 2) (lv' := [(1, .int 2), (0, .ref (ad 0))]) hx hb dX12_clears_21 hl (k := 0) rfl (by decide) (by decide) rfl (fun ls hl => ?_)
      refine lv_goto (tgt := 9) hx hb dX12_clears_24 (by decide) ?_
      refine lv_iload_n hx hb dX12_clears_9 rfl (lv_at hl 0 rfl) ?_
      refine lv_bipush (v := 10) hx hb dX12_clears_10 (by decide) ?_
      refine lv_icmp_ge (tgt := 27) hx hb dX12_clears_12 (by decide) (fun k149 => ?_) (fun k149 => ?_)
      · have h150 := ib_le k149
        exact absurd h150 (by decide)
      · have h151 := ib_nle k149
        refine lv_aload_n hx hb dX12_clears_15 rfl (lv_at hl 1 rfl) ?_
        refine lv_iload_n hx hb dX12_clears_16 rfl (lv_at hl 0 rfl) ?_
        refine lv_iconst (v := 0) hx hb dX12_clears_17 (by decide) ?_
        have c153 : S113 0 = .inr (12, [.int v31, .ref (ad 1), .ref (ad 2), .ref (ad 3), .ref (ad 4), .ref (ad 5), .int v32, .int v34, .int v36, .int v38, .int v39, .long w40, .int v41, .int v43, .int v44, .int v45, .ref (ad 6), .ref (ad 7), .ref (ad 8), .ref (ad 9), .ref (ad 10), .ref (ad 11), .ref (ad 12), .ref (ad 13), .ref (ad 14), .ref (ad 15), .int v46, .int v48, .ref (ad 16), .int v50, .int v52, .int v54, .int v56, .int v57, .ref (ad 17), .ref (ad 18), .int v58, .ref (ad 19)]) := ((o113 0 (by decide)).trans c114)
        refine xcVv E hs hQ hml hl.1 0 (gX12_tells_2 l g ad hD S113 hI 0 (ib_wk (by decide : Bd 0 (0) (0)) (by decide) (by decide))) mX12_tells q1629 (by decide) c153 rfl rfl ⟨(Nat.le_of_ble_eq_true rfl), (Nat.le_of_ble_eq_true rfl)⟩ ⟨(Nat.le_of_ble_eq_true rfl), (Nat.le_of_ble_eq_true rfl)⟩ (Nat.le_of_ble_eq_true rfl) rfl dX12_clears_18 (fun S152 H locs hp152 hQ _ => ?_)
        obtain ⟨hI, o152, g152_0, g152_1, g152_2, g152_3, g152_4, g152_5, g152_6, ef152_7⟩ := hp152
        have ef154 : EFp (S152 7) (S 7) 0 40 := ef_tt ef152_7 ef115
        obtain ⟨f155, c156, b157⟩ := invM_7 hI
        obtain ⟨v158, ee159⟩ : ∃ z : Int32, f155 40 = z := ⟨_, rfl⟩
        have b160 : Bd v158 (0) (12) := (by rw [← ee159]; exact b157.1 40 (by decide))
        have q161 : elm (S152 7) 40 = v158.toInt := (elm_of c156 40).trans (congrArg Int32.toInt (ee159))
        have b162 : Bd v158 (0) (0) := ⟨(b160).1, by omega⟩
        obtain ⟨v163, ee164⟩ : ∃ z : Int32, f155 41 = z := ⟨_, rfl⟩
        have b165 : Bd v163 (0) (12) := (by rw [← ee164]; exact b157.2.1 41 (by decide))
        have q166 : elm (S152 7) 41 = v163.toInt := (elm_of c156 41).trans (congrArg Int32.toInt (ee164))
        have b167 : Bd v163 (0) (0) := ⟨(b165).1, by omega⟩
        obtain ⟨v168, ee169⟩ : ∃ z : Int32, f155 43 = z := ⟨_, rfl⟩
        have b170 : Bd v168 (0) (12) := (by rw [← ee169]; exact b157.2.2.2.1 43 (by decide))
        have q171 : elm (S152 7) 43 = v168.toInt := (elm_of c156 43).trans (congrArg Int32.toInt (ee169))
        obtain ⟨v172, ee173⟩ : ∃ z : Int32, f155 46 = z := ⟨_, rfl⟩
        have b174 : Bd v172 (0) (8) := (by rw [← ee173]; exact b157.2.2.2.2.1 46 (by decide))
        have q175 : elm (S152 7) 46 = v172.toInt := (elm_of c156 46).trans (congrArg Int32.toInt (ee173))
        obtain ⟨v176, ee177⟩ : ∃ z : Int32, f155 47 = z := ⟨_, rfl⟩
        have b178 : Bd v176 (0) (6) := (by rw [← ee177]; exact b157.2.2.2.2.2.1 47 (by decide))
        have q179 : elm (S152 7) 47 = v176.toInt := (elm_of c156 47).trans (congrArg Int32.toInt (ee177))
        obtain ⟨v180, ee181⟩ : ∃ z : Int32, f155 48 = z := ⟨_, rfl⟩
        have b182 : Bd v180 (0) (3) := (by rw [← ee181]; exact b157.2.2.2.2.2.2.1 48 (by decide))
        have q183 : elm (S152 7) 48 = v180.toInt := (elm_of c156 48).trans (congrArg Int32.toInt (ee181))
        obtain ⟨v184, ee185⟩ : ∃ z : Int32, f155 49 = z := ⟨_, rfl⟩
        have b186 : Bd v184 (0) (40) := (by rw [← ee185]; exact b157.2.2.2.2.2.2.2 49 (by decide))
        have q187 : elm (S152 7) 49 = v184.toInt := (elm_of c156 49).trans (congrArg Int32.toInt (ee185))
        refine lv_iinc (v := 3) (lv' := [(1, .int 3), (0, .ref (ad 0))]) hx hb dX12_clears_21 hl (k := 0) rfl (by decide) (by decide) rfl (fun ls hl => ?_)
        refine lv_goto (tgt := 9) hx hb dX12_clears_24 (by decide) ?_
        refine lv_iload_n hx hb dX12_clears_9 rfl (lv_at hl 0 rfl) ?_
        refine lv_bipush (v := 10) hx hb dX12_clears_10 (by decide) ?_
        refine lv_icmp_ge (tgt := 27) hx hb dX12_clears_12 (by decide) (fun k188 => ?_) (fun k188 => ?_)
        · have h189 := ib_le k188
          exact absurd h189 (by decide)
        · have h190 := ib_nle k188
          refine lv_aload_n hx hb dX12_clears_15 rfl (lv_at hl 1 rfl) ?_
          refine lv_iload_n hx hb dX12_clears_16 rfl (lv_at hl 0 rfl) ?_
          refine lv_iconst (v := 0) hx hb dX12_clears_17 (by decide) ?_
          have c192 : S152 0 = .inr (12, [.int v31, .ref (ad 1), .ref (ad 2), .ref (ad 3), .ref (ad 4), .ref (ad 5), .int v32, .int v34, .int v36, .int v38, .int v39, .long w40, .int v41, .int v43, .int v44, .int v45, .ref (ad 6), .ref (ad 7), .ref (ad 8), .ref (ad 9), .ref (ad 10), .ref (ad 11), .ref (ad 12), .ref (ad 13), .ref (ad 14), .ref (ad 15), .int v46, .int v48, .ref (ad 16), .int v50, .int v52, .int v54, .int v56, .int v57, .ref (ad 17), .ref (ad 18), .int v58, .ref (ad 19)]) := ((o152 0 (by decide)).trans c153)
          refine xcVv E hs hQ hml hl.1 0 (gX12_tells_3 l g ad hD S152 hI 0 (ib_wk (by decide : Bd 0 (0) (0)) (by decide) (by decide))) mX12_tells q1629 (by decide) c192 rfl rfl ⟨(Nat.le_of_ble_eq_true rfl), (Nat.le_of_ble_eq_true rfl)⟩ ⟨(Nat.le_of_ble_eq_true rfl), (Nat.le_of_ble_eq_true rfl)⟩ (Nat.le_of_ble_eq_true rfl) rfl dX12_clears_18 (fun S191 H locs hp191 hQ _ => ?_)
          obtain ⟨hI, o191, g191_0, g191_1, g191_2, g191_3, g191_4, g191_5, g191_6, ef191_7⟩ := hp191
          have ef193 : EFp (S191 7) (S 7) 0 40 := ef_tt ef191_7 ef154
          obtain ⟨f194, c195, b196⟩ := invM_7 hI
          obtain ⟨v197, ee198⟩ : ∃ z : Int32, f194 43 = z := ⟨_, rfl⟩
          have b199 : Bd v197 (0) (12) := (by rw [← ee198]; exact b196.2.2.2.1 43 (by decide))
          have q200 : elm (S191 7) 43 = v197.toInt := (elm_of c195 43).trans (congrArg Int32.toInt (ee198))
          have b201 : Bd v197 (0) (0) := ⟨(b199).1, by omega⟩
          obtain ⟨v202, ee203⟩ : ∃ z : Int32, f194 40 = z := ⟨_, rfl⟩
          have b204 : Bd v202 (0) (12) := (by rw [← ee203]; exact b196.1 40 (by decide))
          have q205 : elm (S191 7) 40 = v202.toInt := (elm_of c195 40).trans (congrArg Int32.toInt (ee203))
          have b206 : Bd v202 (0) (0) := ⟨(b204).1, by omega⟩
          obtain ⟨v207, ee208⟩ : ∃ z : Int32, f194 41 = z := ⟨_, rfl⟩
          have b209 : Bd v207 (0) (12) := (by rw [← ee208]; exact b196.2.1 41 (by decide))
          have q210 : elm (S191 7) 41 = v207.toInt := (elm_of c195 41).trans (congrArg Int32.toInt (ee208))
          have b211 : Bd v207 (0) (0) := ⟨(b209).1, by omega⟩
          obtain ⟨v212, ee213⟩ : ∃ z : Int32, f194 46 = z := ⟨_, rfl⟩
          have b214 : Bd v212 (0) (8) := (by rw [← ee213]; exact b196.2.2.2.2.1 46 (by decide))
          have q215 : elm (S191 7) 46 = v212.toInt := (elm_of c195 46).trans (congrArg Int32.toInt (ee213))
          obtain ⟨v216, ee217⟩ : ∃ z : Int32, f194 47 = z := ⟨_, rfl⟩
          have b218 : Bd v216 (0) (6) := (by rw [← ee217]; exact b196.2.2.2.2.2.1 47 (by decide))
          have q219 : elm (S191 7) 47 = v216.toInt := (elm_of c195 47).trans (congrArg Int32.toInt (ee217))
          obtain ⟨v220, ee221⟩ : ∃ z : Int32, f194 48 = z := ⟨_, rfl⟩
          have b222 : Bd v220 (0) (3) := (by rw [← ee221]; exact b196.2.2.2.2.2.2.1 48 (by decide))
          have q223 : elm (S191 7) 48 = v220.toInt := (elm_of c195 48).trans (congrArg Int32.toInt (ee221))
          obtain ⟨v224, ee225⟩ : ∃ z : Int32, f194 49 = z := ⟨_, rfl⟩
          have b226 : Bd v224 (0) (40) := (by rw [← ee225]; exact b196.2.2.2.2.2.2.2 49 (by decide))
          have q227 : elm (S191 7) 49 = v224.toInt := (elm_of c195 49).trans (congrArg Int32.toInt (ee225))
          refine lv_iinc (v := 4) (lv' := [(1, .int 4), (0, .ref (ad 0))]) hx hb dX12_clears_21 hl (k := 0) rfl (by decide) (by decide) rfl (fun ls hl => ?_)
          refine lv_goto (tgt := 9) hx hb dX12_clears_24 (by decide) ?_
          refine lv_iload_n hx hb dX12_clears_9 rfl (lv_at hl 0 rfl) ?_
          refine lv_bipush (v := 10) hx hb dX12_clears_10 (by decide) ?_
          refine lv_icmp_ge (tgt := 27) hx hb dX12_clears_12 (by decide) (fun k228 => ?_) (fun k228 => ?_)
          · have h229 := ib_le k228
            exact absurd h229 (by decide)
          · have h230 := ib_nle k228
            refine lv_aload_n hx hb dX12_clears_15 rfl (lv_at hl 1 rfl) ?_
            refine lv_iload_n hx hb dX12_clears_16 rfl (lv_at hl 0 rfl) ?_
            refine lv_iconst (v := 0) hx hb dX12_clears_17 (by decide) ?_
            have c232 : S191 0 = .inr (12, [.int v31, .ref (ad 1), .ref (ad 2), .ref (ad 3), .ref (ad 4), .ref (ad 5), .int v32, .int v34, .int v36, .int v38, .int v39, .long w40, .int v41, .int v43, .int v44, .int v45, .ref (ad 6), .ref (ad 7), .ref (ad 8), .ref (ad 9), .ref (ad 10), .ref (ad 11), .ref (ad 12), .ref (ad 13), .ref (ad 14), .ref (ad 15), .int v46, .int v48, .ref (ad 16), .int v50, .int v52, .int v54, .int v56, .int v57, .ref (ad 17), .ref (ad 18), .int v58, .ref (ad 19)]) := ((o191 0 (by decide)).trans c192)
            refine xcVv E hs hQ hml hl.1 0 (gX12_tells_4 l g ad hD S191 hI 0) mX12_tells q1629 (by decide) c232 rfl rfl ⟨(Nat.le_of_ble_eq_true rfl), (Nat.le_of_ble_eq_true rfl)⟩ ⟨(Nat.le_of_ble_eq_true rfl), (Nat.le_of_ble_eq_true rfl)⟩ (Nat.le_of_ble_eq_true rfl) rfl dX12_clears_18 (fun S231 H locs hp231 hQ _ => ?_)
            obtain ⟨hI, o231, g231_0, g231_1, g231_2, g231_3, g231_4, g231_5, g231_6, ef231_7⟩ := hp231
            have ef233 : EFp (S231 7) (S 7) 0 40 := ef_tt ef231_7 ef193
            obtain ⟨f234, c235, b236⟩ := invM_7 hI
            obtain ⟨v237, ee238⟩ : ∃ z : Int32, f234 40 = z := ⟨_, rfl⟩
            have b239 : Bd v237 (0) (12) := (by rw [← ee238]; exact b236.1 40 (by decide))
            have q240 : elm (S231 7) 40 = v237.toInt := (elm_of c235 40).trans (congrArg Int32.toInt (ee238))
            have b241 : Bd v237 (0) (0) := ⟨(b239).1, by omega⟩
            obtain ⟨v242, ee243⟩ : ∃ z : Int32, f234 41 = z := ⟨_, rfl⟩
            have b244 : Bd v242 (0) (12) := (by rw [← ee243]; exact b236.2.1 41 (by decide))
            have q245 : elm (S231 7) 41 = v242.toInt := (elm_of c235 41).trans (congrArg Int32.toInt (ee243))
            have b246 : Bd v242 (0) (0) := ⟨(b244).1, by omega⟩
            obtain ⟨v247, ee248⟩ : ∃ z : Int32, f234 43 = z := ⟨_, rfl⟩
            have b249 : Bd v247 (0) (12) := (by rw [← ee248]; exact b236.2.2.2.1 43 (by decide))
            have q250 : elm (S231 7) 43 = v247.toInt := (elm_of c235 43).trans (congrArg Int32.toInt (ee248))
            have b251 : Bd v247 (0) (0) := ⟨(b249).1, by omega⟩
            obtain ⟨v252, ee253⟩ : ∃ z : Int32, f234 46 = z := ⟨_, rfl⟩
            have b254 : Bd v252 (0) (8) := (by rw [← ee253]; exact b236.2.2.2.2.1 46 (by decide))
            have q255 : elm (S231 7) 46 = v252.toInt := (elm_of c235 46).trans (congrArg Int32.toInt (ee253))
            obtain ⟨v256, ee257⟩ : ∃ z : Int32, f234 47 = z := ⟨_, rfl⟩
            have b258 : Bd v256 (0) (6) := (by rw [← ee257]; exact b236.2.2.2.2.2.1 47 (by decide))
            have q259 : elm (S231 7) 47 = v256.toInt := (elm_of c235 47).trans (congrArg Int32.toInt (ee257))
            obtain ⟨v260, ee261⟩ : ∃ z : Int32, f234 48 = z := ⟨_, rfl⟩
            have b262 : Bd v260 (0) (3) := (by rw [← ee261]; exact b236.2.2.2.2.2.2.1 48 (by decide))
            have q263 : elm (S231 7) 48 = v260.toInt := (elm_of c235 48).trans (congrArg Int32.toInt (ee261))
            obtain ⟨v264, ee265⟩ : ∃ z : Int32, f234 49 = z := ⟨_, rfl⟩
            have b266 : Bd v264 (0) (40) := (by rw [← ee265]; exact b236.2.2.2.2.2.2.2 49 (by decide))
            have q267 : elm (S231 7) 49 = v264.toInt := (elm_of c235 49).trans (congrArg Int32.toInt (ee265))
            refine lv_iinc (v := 5) (lv' := [(1, .int 5), (0, .ref (ad 0))]) hx hb dX12_clears_21 hl (k := 0) rfl (by decide) (by decide) rfl (fun ls hl => ?_)
            refine lv_goto (tgt := 9) hx hb dX12_clears_24 (by decide) ?_
            refine lv_iload_n hx hb dX12_clears_9 rfl (lv_at hl 0 rfl) ?_
            refine lv_bipush (v := 10) hx hb dX12_clears_10 (by decide) ?_
            refine lv_icmp_ge (tgt := 27) hx hb dX12_clears_12 (by decide) (fun k268 => ?_) (fun k268 => ?_)
            · have h269 := ib_le k268
              exact absurd h269 (by decide)
            · have h270 := ib_nle k268
              refine lv_aload_n hx hb dX12_clears_15 rfl (lv_at hl 1 rfl) ?_
              refine lv_iload_n hx hb dX12_clears_16 rfl (lv_at hl 0 rfl) ?_
              refine lv_iconst (v := 0) hx hb dX12_clears_17 (by decide) ?_
              have c272 : S231 0 = .inr (12, [.int v31, .ref (ad 1), .ref (ad 2), .ref (ad 3), .ref (ad 4), .ref (ad 5), .int v32, .int v34, .int v36, .int v38, .int v39, .long w40, .int v41, .int v43, .int v44, .int v45, .ref (ad 6), .ref (ad 7), .ref (ad 8), .ref (ad 9), .ref (ad 10), .ref (ad 11), .ref (ad 12), .ref (ad 13), .ref (ad 14), .ref (ad 15), .int v46, .int v48, .ref (ad 16), .int v50, .int v52, .int v54, .int v56, .int v57, .ref (ad 17), .ref (ad 18), .int v58, .ref (ad 19)]) := ((o231 0 (by decide)).trans c232)
              refine xcVv E hs hQ hml hl.1 0 (gX12_tells_5 l g ad hD S231 hI 0) mX12_tells q1629 (by decide) c272 rfl rfl ⟨(Nat.le_of_ble_eq_true rfl), (Nat.le_of_ble_eq_true rfl)⟩ ⟨(Nat.le_of_ble_eq_true rfl), (Nat.le_of_ble_eq_true rfl)⟩ (Nat.le_of_ble_eq_true rfl) rfl dX12_clears_18 (fun S271 H locs hp271 hQ _ => ?_)
              obtain ⟨hI, o271, g271_0, g271_1, g271_2, g271_3, g271_4, g271_5, g271_6, ef271_7⟩ := hp271
              have ef273 : EFp (S271 7) (S 7) 0 40 := ef_tt ef271_7 ef233
              obtain ⟨f274, c275, b276⟩ := invM_7 hI
              obtain ⟨v277, ee278⟩ : ∃ z : Int32, f274 40 = z := ⟨_, rfl⟩
              have b279 : Bd v277 (0) (12) := (by rw [← ee278]; exact b276.1 40 (by decide))
              have q280 : elm (S271 7) 40 = v277.toInt := (elm_of c275 40).trans (congrArg Int32.toInt (ee278))
              have b281 : Bd v277 (0) (0) := ⟨(b279).1, by omega⟩
              obtain ⟨v282, ee283⟩ : ∃ z : Int32, f274 41 = z := ⟨_, rfl⟩
              have b284 : Bd v282 (0) (12) := (by rw [← ee283]; exact b276.2.1 41 (by decide))
              have q285 : elm (S271 7) 41 = v282.toInt := (elm_of c275 41).trans (congrArg Int32.toInt (ee283))
              have b286 : Bd v282 (0) (0) := ⟨(b284).1, by omega⟩
              obtain ⟨v287, ee288⟩ : ∃ z : Int32, f274 43 = z := ⟨_, rfl⟩
              have b289 : Bd v287 (0) (12) := (by rw [← ee288]; exact b276.2.2.2.1 43 (by decide))
              have q290 : elm (S271 7) 43 = v287.toInt := (elm_of c275 43).trans (congrArg Int32.toInt (ee288))
              have b291 : Bd v287 (0) (0) := ⟨(b289).1, by omega⟩
              obtain ⟨v292, ee293⟩ : ∃ z : Int32, f274 46 = z := ⟨_, rfl⟩
              have b294 : Bd v292 (0) (8) := (by rw [← ee293]; exact b276.2.2.2.2.1 46 (by decide))
              have q295 : elm (S271 7) 46 = v292.toInt := (elm_of c275 46).trans (congrArg Int32.toInt (ee293))
              obtain ⟨v296, ee297⟩ : ∃ z : Int32, f274 47 = z := ⟨_, rfl⟩
              have b298 : Bd v296 (0) (6) := (by rw [← ee297]; exact b276.2.2.2.2.2.1 47 (by decide))
              have q299 : elm (S271 7) 47 = v296.toInt := (elm_of c275 47).trans (congrArg Int32.toInt (ee297))
              obtain ⟨v300, ee301⟩ : ∃ z : Int32, f274 48 = z := ⟨_, rfl⟩
              have b302 : Bd v300 (0) (3) := (by rw [← ee301]; exact b276.2.2.2.2.2.2.1 48 (by decide))
              have q303 : elm (S271 7) 48 = v300.toInt := (elm_of c275 48).trans (congrArg Int32.toInt (ee301))
              obtain ⟨v304, ee305⟩ : ∃ z : Int32, f274 49 = z := ⟨_, rfl⟩
              have b306 : Bd v304 (0) (40) := (by rw [← ee305]; exact b276.2.2.2.2.2.2.2 49 (by decide))
              have q307 : elm (S271 7) 49 = v304.toInt := (elm_of c275 49).trans (congrArg Int32.toInt (ee305))
              refine lv_iinc (v := 6) (lv' := [(1, .int 6), (0, .ref (ad 0))]) hx hb dX12_clears_21 hl (k := 0) rfl (by decide) (by decide) rfl (fun ls hl => ?_)
              refine lv_goto (tgt := 9) hx hb dX12_clears_24 (by decide) ?_
              refine lv_iload_n hx hb dX12_clears_9 rfl (lv_at hl 0 rfl) ?_
              refine lv_bipush (v := 10) hx hb dX12_clears_10 (by decide) ?_
              refine lv_icmp_ge (tgt := 27) hx hb dX12_clears_12 (by decide) (fun k308 => ?_) (fun k308 => ?_)
              · have h309 := ib_le k308
                exact absurd h309 (by decide)
              · have h310 := ib_nle k308
                refine lv_aload_n hx hb dX12_clears_15 rfl (lv_at hl 1 rfl) ?_
                refine lv_iload_n hx hb dX12_clears_16 rfl (lv_at hl 0 rfl) ?_
                refine lv_iconst (v := 0) hx hb dX12_clears_17 (by decide) ?_
                have c312 : S271 0 = .inr (12, [.int v31, .ref (ad 1), .ref (ad 2), .ref (ad 3), .ref (ad 4), .ref (ad 5), .int v32, .int v34, .int v36, .int v38, .int v39, .long w40, .int v41, .int v43, .int v44, .int v45, .ref (ad 6), .ref (ad 7), .ref (ad 8), .ref (ad 9), .ref (ad 10), .ref (ad 11), .ref (ad 12), .ref (ad 13), .ref (ad 14), .ref (ad 15), .int v46, .int v48, .ref (ad 16), .int v50, .int v52, .int v54, .int v56, .int v57, .ref (ad 17), .ref (ad 18), .int v58, .ref (ad 19)]) := ((o271 0 (by decide)).trans c272)
                refine xcVv E hs hQ hml hl.1 0 (gX12_tells_6 l g ad hD S271 hI 0 (ib_wk (by decide : Bd 0 (0) (0)) (by decide) (by decide))) mX12_tells q1629 (by decide) c312 rfl rfl ⟨(Nat.le_of_ble_eq_true rfl), (Nat.le_of_ble_eq_true rfl)⟩ ⟨(Nat.le_of_ble_eq_true rfl), (Nat.le_of_ble_eq_true rfl)⟩ (Nat.le_of_ble_eq_true rfl) rfl dX12_clears_18 (fun S311 H locs hp311 hQ _ => ?_)
                obtain ⟨hI, o311, g311_0, g311_1, g311_2, g311_3, g311_4, g311_5, g311_6, ef311_7⟩ := hp311
                have ef313 : EFp (S311 7) (S 7) 0 40 := ef_tt ef311_7 ef273
                obtain ⟨f314, c315, b316⟩ := invM_7 hI
                obtain ⟨v317, ee318⟩ : ∃ z : Int32, f314 46 = z := ⟨_, rfl⟩
                have b319 : Bd v317 (0) (8) := (by rw [← ee318]; exact b316.2.2.2.2.1 46 (by decide))
                have q320 : elm (S311 7) 46 = v317.toInt := (elm_of c315 46).trans (congrArg Int32.toInt (ee318))
                have b321 : Bd v317 (0) (0) := ⟨(b319).1, by omega⟩
                obtain ⟨v322, ee323⟩ : ∃ z : Int32, f314 40 = z := ⟨_, rfl⟩
                have b324 : Bd v322 (0) (12) := (by rw [← ee323]; exact b316.1 40 (by decide))
                have q325 : elm (S311 7) 40 = v322.toInt := (elm_of c315 40).trans (congrArg Int32.toInt (ee323))
                have b326 : Bd v322 (0) (0) := ⟨(b324).1, by omega⟩
                obtain ⟨v327, ee328⟩ : ∃ z : Int32, f314 41 = z := ⟨_, rfl⟩
                have b329 : Bd v327 (0) (12) := (by rw [← ee328]; exact b316.2.1 41 (by decide))
                have q330 : elm (S311 7) 41 = v327.toInt := (elm_of c315 41).trans (congrArg Int32.toInt (ee328))
                have b331 : Bd v327 (0) (0) := ⟨(b329).1, by omega⟩
                obtain ⟨v332, ee333⟩ : ∃ z : Int32, f314 43 = z := ⟨_, rfl⟩
                have b334 : Bd v332 (0) (12) := (by rw [← ee333]; exact b316.2.2.2.1 43 (by decide))
                have q335 : elm (S311 7) 43 = v332.toInt := (elm_of c315 43).trans (congrArg Int32.toInt (ee333))
                have b336 : Bd v332 (0) (0) := ⟨(b334).1, by omega⟩
                obtain ⟨v337, ee338⟩ : ∃ z : Int32, f314 47 = z := ⟨_, rfl⟩
                have b339 : Bd v337 (0) (6) := (by rw [← ee338]; exact b316.2.2.2.2.2.1 47 (by decide))
                have q340 : elm (S311 7) 47 = v337.toInt := (elm_of c315 47).trans (congrArg Int32.toInt (ee338))
                obtain ⟨v341, ee342⟩ : ∃ z : Int32, f314 48 = z := ⟨_, rfl⟩
                have b343 : Bd v341 (0) (3) := (by rw [← ee342]; exact b316.2.2.2.2.2.2.1 48 (by decide))
                have q344 : elm (S311 7) 48 = v341.toInt := (elm_of c315 48).trans (congrArg Int32.toInt (ee342))
                obtain ⟨v345, ee346⟩ : ∃ z : Int32, f314 49 = z := ⟨_, rfl⟩
                have b347 : Bd v345 (0) (40) := (by rw [← ee346]; exact b316.2.2.2.2.2.2.2 49 (by decide))
                have q348 : elm (S311 7) 49 = v345.toInt := (elm_of c315 49).trans (congrArg Int32.toInt (ee346))
                refine lv_iinc (v := 7) (lv' := [(1, .int 7), (0, .ref (ad 0))]) hx hb dX12_clears_21 hl (k := 0) rfl (by decide) (by decide) rfl (fun ls hl => ?_)
                refine lv_goto (tgt := 9) hx hb dX12_clears_24 (by decide) ?_
                refine lv_iload_n hx hb dX12_clears_9 rfl (lv_at hl 0 rfl) ?_
                refine lv_bipush (v := 10) hx hb dX12_clears_10 (by decide) ?_
                refine lv_icmp_ge (tgt := 27) hx hb dX12_clears_12 (by decide) (fun k349 => ?_) (fun k349 => ?_)
                · have h350 := ib_le k349
                  exact absurd h350 (by decide)
                · have h351 := ib_nle k349
                  refine lv_aload_n hx hb dX12_clears_15 rfl (lv_at hl 1 rfl) ?_
                  refine lv_iload_n hx hb dX12_clears_16 rfl (lv_at hl 0 rfl) ?_
                  refine lv_iconst (v := 0) hx hb dX12_clears_17 (by decide) ?_
                  have c353 : S311 0 = .inr (12, [.int v31, .ref (ad 1), .ref (ad 2), .ref (ad 3), .ref (ad 4), .ref (ad 5), .int v32, .int v34, .int v36, .int v38, .int v39, .long w40, .int v41, .int v43, .int v44, .int v45, .ref (ad 6), .ref (ad 7), .ref (ad 8), .ref (ad 9), .ref (ad 10), .ref (ad 11), .ref (ad 12), .ref (ad 13), .ref (ad 14), .ref (ad 15), .int v46, .int v48, .ref (ad 16), .int v50, .int v52, .int v54, .int v56, .int v57, .ref (ad 17), .ref (ad 18), .int v58, .ref (ad 19)]) := ((o311 0 (by decide)).trans c312)
                  refine xcVv E hs hQ hml hl.1 0 (gX12_tells_7 l g ad hD S311 hI 0 (ib_wk (by decide : Bd 0 (0) (0)) (by decide) (by decide))) mX12_tells q1629 (by decide) c353 rfl rfl ⟨(Nat.le_of_ble_eq_true rfl), (Nat.le_of_ble_eq_true rfl)⟩ ⟨(Nat.le_of_ble_eq_true rfl), (Nat.le_of_ble_eq_true rfl)⟩ (Nat.le_of_ble_eq_true rfl) rfl dX12_clears_18 (fun S352 H locs hp352 hQ _ => ?_)
                  obtain ⟨hI, o352, g352_0, g352_1, g352_2, g352_3, g352_4, g352_5, g352_6, ef352_7⟩ := hp352
                  have ef354 : EFp (S352 7) (S 7) 0 40 := ef_tt ef352_7 ef313
                  obtain ⟨f355, c356, b357⟩ := invM_7 hI
                  obtain ⟨v358, ee359⟩ : ∃ z : Int32, f355 47 = z := ⟨_, rfl⟩
                  have b360 : Bd v358 (0) (6) := (by rw [← ee359]; exact b357.2.2.2.2.2.1 47 (by decide))
                  have q361 : elm (S352 7) 47 = v358.toInt := (elm_of c356 47).trans (congrArg Int32.toInt (ee359))
                  have b362 : Bd v358 (0) (0) := ⟨(b360).1, by omega⟩
                  obtain ⟨v363, ee364⟩ : ∃ z : Int32, f355 40 = z := ⟨_, rfl⟩
                  have b365 : Bd v363 (0) (12) := (by rw [← ee364]; exact b357.1 40 (by decide))
                  have q366 : elm (S352 7) 40 = v363.toInt := (elm_of c356 40).trans (congrArg Int32.toInt (ee364))
                  have b367 : Bd v363 (0) (0) := ⟨(b365).1, by omega⟩
                  obtain ⟨v368, ee369⟩ : ∃ z : Int32, f355 41 = z := ⟨_, rfl⟩
                  have b370 : Bd v368 (0) (12) := (by rw [← ee369]; exact b357.2.1 41 (by decide))
                  have q371 : elm (S352 7) 41 = v368.toInt := (elm_of c356 41).trans (congrArg Int32.toInt (ee369))
                  have b372 : Bd v368 (0) (0) := ⟨(b370).1, by omega⟩
                  obtain ⟨v373, ee374⟩ : ∃ z : Int32, f355 43 = z := ⟨_, rfl⟩
                  have b375 : Bd v373 (0) (12) := (by rw [← ee374]; exact b357.2.2.2.1 43 (by decide))
                  have q376 : elm (S352 7) 43 = v373.toInt := (elm_of c356 43).trans (congrArg Int32.toInt (ee374))
                  have b377 : Bd v373 (0) (0) := ⟨(b375).1, by omega⟩
                  obtain ⟨v378, ee379⟩ : ∃ z : Int32, f355 46 = z := ⟨_, rfl⟩
                  have b380 : Bd v378 (0) (8) := (by rw [← ee379]; exact b357.2.2.2.2.1 46 (by decide))
                  have q381 : elm (S352 7) 46 = v378.toInt := (elm_of c356 46).trans (congrArg Int32.toInt (ee379))
                  have b382 : Bd v378 (0) (0) := ⟨(b380).1, by omega⟩
                  obtain ⟨v383, ee384⟩ : ∃ z : Int32, f355 48 = z := ⟨_, rfl⟩
                  have b385 : Bd v383 (0) (3) := (by rw [← ee384]; exact b357.2.2.2.2.2.2.1 48 (by decide))
                  have q386 : elm (S352 7) 48 = v383.toInt := (elm_of c356 48).trans (congrArg Int32.toInt (ee384))
                  obtain ⟨v387, ee388⟩ : ∃ z : Int32, f355 49 = z := ⟨_, rfl⟩
                  have b389 : Bd v387 (0) (40) := (by rw [← ee388]; exact b357.2.2.2.2.2.2.2 49 (by decide))
                  have q390 : elm (S352 7) 49 = v387.toInt := (elm_of c356 49).trans (congrArg Int32.toInt (ee388))
                  refine lv_iinc (v := 8) (lv' := [(1, .int 8), (0, .ref (ad 0))]) hx hb dX12_clears_21 hl (k := 0) rfl (by decide) (by decide) rfl (fun ls hl => ?_)
                  refine lv_goto (tgt := 9) hx hb dX12_clears_24 (by decide) ?_
                  refine lv_iload_n hx hb dX12_clears_9 rfl (lv_at hl 0 rfl) ?_
                  refine lv_bipush (v := 10) hx hb dX12_clears_10 (by decide) ?_
                  refine lv_icmp_ge (tgt := 27) hx hb dX12_clears_12 (by decide) (fun k391 => ?_) (fun k391 => ?_)
                  · have h392 := ib_le k391
                    exact absurd h392 (by decide)
                  · have h393 := ib_nle k391
                    refine lv_aload_n hx hb dX12_clears_15 rfl (lv_at hl 1 rfl) ?_
                    refine lv_iload_n hx hb dX12_clears_16 rfl (lv_at hl 0 rfl) ?_
                    refine lv_iconst (v := 0) hx hb dX12_clears_17 (by decide) ?_
                    have c395 : S352 0 = .inr (12, [.int v31, .ref (ad 1), .ref (ad 2), .ref (ad 3), .ref (ad 4), .ref (ad 5), .int v32, .int v34, .int v36, .int v38, .int v39, .long w40, .int v41, .int v43, .int v44, .int v45, .ref (ad 6), .ref (ad 7), .ref (ad 8), .ref (ad 9), .ref (ad 10), .ref (ad 11), .ref (ad 12), .ref (ad 13), .ref (ad 14), .ref (ad 15), .int v46, .int v48, .ref (ad 16), .int v50, .int v52, .int v54, .int v56, .int v57, .ref (ad 17), .ref (ad 18), .int v58, .ref (ad 19)]) := ((o352 0 (by decide)).trans c353)
                    refine xcVv E hs hQ hml hl.1 0 (gX12_tells_8 l g ad hD S352 hI 0 (ib_wk (by decide : Bd 0 (0) (0)) (by decide) (by decide))) mX12_tells q1629 (by decide) c395 rfl rfl ⟨(Nat.le_of_ble_eq_true rfl), (Nat.le_of_ble_eq_true rfl)⟩ ⟨(Nat.le_of_ble_eq_true rfl), (Nat.le_of_ble_eq_true rfl)⟩ (Nat.le_of_ble_eq_true rfl) rfl dX12_clears_18 (fun S394 H locs hp394 hQ _ => ?_)
                    obtain ⟨hI, o394, g394_0, g394_1, g394_2, g394_3, g394_4, g394_5, g394_6, ef394_7⟩ := hp394
                    have ef396 : EFp (S394 7) (S 7) 0 40 := ef_tt ef394_7 ef354
                    obtain ⟨f397, c398, b399⟩ := invM_7 hI
                    obtain ⟨v400, ee401⟩ : ∃ z : Int32, f397 48 = z := ⟨_, rfl⟩
                    have b402 : Bd v400 (0) (3) := (by rw [← ee401]; exact b399.2.2.2.2.2.2.1 48 (by decide))
                    have q403 : elm (S394 7) 48 = v400.toInt := (elm_of c398 48).trans (congrArg Int32.toInt (ee401))
                    have b404 : Bd v400 (0) (0) := ⟨(b402).1, by omega⟩
                    obtain ⟨v405, ee406⟩ : ∃ z : Int32, f397 40 = z := ⟨_, rfl⟩
                    have b407 : Bd v405 (0) (12) := (by rw [← ee406]; exact b399.1 40 (by decide))
                    have q408 : elm (S394 7) 40 = v405.toInt := (elm_of c398 40).trans (congrArg Int32.toInt (ee406))
                    have b409 : Bd v405 (0) (0) := ⟨(b407).1, by omega⟩
                    obtain ⟨v410, ee411⟩ : ∃ z : Int32, f397 41 = z := ⟨_, rfl⟩
                    have b412 : Bd v410 (0) (12) := (by rw [← ee411]; exact b399.2.1 41 (by decide))
                    have q413 : elm (S394 7) 41 = v410.toInt := (elm_of c398 41).trans (congrArg Int32.toInt (ee411))
                    have b414 : Bd v410 (0) (0) := ⟨(b412).1, by omega⟩
                    obtain ⟨v415, ee416⟩ : ∃ z : Int32, f397 43 = z := ⟨_, rfl⟩
                    have b417 : Bd v415 (0) (12) := (by rw [← ee416]; exact b399.2.2.2.1 43 (by decide))
                    have q418 : elm (S394 7) 43 = v415.toInt := (elm_of c398 43).trans (congrArg Int32.toInt (ee416))
                    have b419 : Bd v415 (0) (0) := ⟨(b417).1, by omega⟩
                    obtain ⟨v420, ee421⟩ : ∃ z : Int32, f397 46 = z := ⟨_, rfl⟩
                    have b422 : Bd v420 (0) (8) := (by rw [← ee421]; exact b399.2.2.2.2.1 46 (by decide))
                    have q423 : elm (S394 7) 46 = v420.toInt := (elm_of c398 46).trans (congrArg Int32.toInt (ee421))
                    have b424 : Bd v420 (0) (0) := ⟨(b422).1, by omega⟩
                    obtain ⟨v425, ee426⟩ : ∃ z : Int32, f397 47 = z := ⟨_, rfl⟩
                    have b427 : Bd v425 (0) (6) := (by rw [← ee426]; exact b399.2.2.2.2.2.1 47 (by decide))
                    have q428 : elm (S394 7) 47 = v425.toInt := (elm_of c398 47).trans (congrArg Int32.toInt (ee426))
                    have b429 : Bd v425 (0) (0) := ⟨(b427).1, by omega⟩
                    obtain ⟨v430, ee431⟩ : ∃ z : Int32, f397 49 = z := ⟨_, rfl⟩
                    have b432 : Bd v430 (0) (40) := (by rw [← ee431]; exact b399.2.2.2.2.2.2.2 49 (by decide))
                    have q433 : elm (S394 7) 49 = v430.toInt := (elm_of c398 49).trans (congrArg Int32.toInt (ee431))
                    refine lv_iinc (v := 9) (lv' := [(1, .int 9), (0, .ref (ad 0))]) hx hb dX12_clears_21 hl (k := 0) rfl (by decide) (by decide) rfl (fun ls hl => ?_)
                    refine lv_goto (tgt := 9) hx hb dX12_clears_24 (by decide) ?_
                    refine lv_iload_n hx hb dX12_clears_9 rfl (lv_at hl 0 rfl) ?_
                    refine lv_bipush (v := 10) hx hb dX12_clears_10 (by decide) ?_
                    refine lv_icmp_ge (tgt := 27) hx hb dX12_clears_12 (by decide) (fun k434 => ?_) (fun k434 => ?_)
                    · have h435 := ib_le k434
                      exact absurd h435 (by decide)
                    · have h436 := ib_nle k434
                      refine lv_aload_n hx hb dX12_clears_15 rfl (lv_at hl 1 rfl) ?_
                      refine lv_iload_n hx hb dX12_clears_16 rfl (lv_at hl 0 rfl) ?_
                      refine lv_iconst (v := 0) hx hb dX12_clears_17 (by decide) ?_
                      have c438 : S394 0 = .inr (12, [.int v31, .ref (ad 1), .ref (ad 2), .ref (ad 3), .ref (ad 4), .ref (ad 5), .int v32, .int v34, .int v36, .int v38, .int v39, .long w40, .int v41, .int v43, .int v44, .int v45, .ref (ad 6), .ref (ad 7), .ref (ad 8), .ref (ad 9), .ref (ad 10), .ref (ad 11), .ref (ad 12), .ref (ad 13), .ref (ad 14), .ref (ad 15), .int v46, .int v48, .ref (ad 16), .int v50, .int v52, .int v54, .int v56, .int v57, .ref (ad 17), .ref (ad 18), .int v58, .ref (ad 19)]) := ((o394 0 (by decide)).trans c395)
                      refine xcVv E hs hQ hml hl.1 0 (gX12_tells_9 l g ad hD S394 hI 0 (ib_wk (by decide : Bd 0 (0) (0)) (by decide) (by decide))) mX12_tells q1629 (by decide) c438 rfl rfl ⟨(Nat.le_of_ble_eq_true rfl), (Nat.le_of_ble_eq_true rfl)⟩ ⟨(Nat.le_of_ble_eq_true rfl), (Nat.le_of_ble_eq_true rfl)⟩ (Nat.le_of_ble_eq_true rfl) rfl dX12_clears_18 (fun S437 H locs hp437 hQ _ => ?_)
                      obtain ⟨hI, o437, g437_0, g437_1, g437_2, g437_3, g437_4, g437_5, g437_6, ef437_7⟩ := hp437
                      have ef439 : EFp (S437 7) (S 7) 0 40 := ef_tt ef437_7 ef396
                      obtain ⟨f440, c441, b442⟩ := invM_7 hI
                      obtain ⟨v443, ee444⟩ : ∃ z : Int32, f440 49 = z := ⟨_, rfl⟩
                      have b445 : Bd v443 (0) (40) := (by rw [← ee444]; exact b442.2.2.2.2.2.2.2 49 (by decide))
                      have q446 : elm (S437 7) 49 = v443.toInt := (elm_of c441 49).trans (congrArg Int32.toInt (ee444))
                      have b447 : Bd v443 (0) (0) := ⟨(b445).1, by omega⟩
                      obtain ⟨v448, ee449⟩ : ∃ z : Int32, f440 40 = z := ⟨_, rfl⟩
                      have b450 : Bd v448 (0) (12) := (by rw [← ee449]; exact b442.1 40 (by decide))
                      have q451 : elm (S437 7) 40 = v448.toInt := (elm_of c441 40).trans (congrArg Int32.toInt (ee449))
                      have b452 : Bd v448 (0) (0) := ⟨(b450).1, by omega⟩
                      obtain ⟨v453, ee454⟩ : ∃ z : Int32, f440 41 = z := ⟨_, rfl⟩
                      have b455 : Bd v453 (0) (12) := (by rw [← ee454]; exact b442.2.1 41 (by decide))
                      have q456 : elm (S437 7) 41 = v453.toInt := (elm_of c441 41).trans (congrArg Int32.toInt (ee454))
                      have b457 : Bd v453 (0) (0) := ⟨(b455).1, by omega⟩
                      obtain ⟨v458, ee459⟩ : ∃ z : Int32, f440 43 = z := ⟨_, rfl⟩
                      have b460 : Bd v458 (0) (12) := (by rw [← ee459]; exact b442.2.2.2.1 43 (by decide))
                      have q461 : elm (S437 7) 43 = v458.toInt := (elm_of c441 43).trans (congrArg Int32.toInt (ee459))
                      have b462 : Bd v458 (0) (0) := ⟨(b460).1, by omega⟩
                      obtain ⟨v463, ee464⟩ : ∃ z : Int32, f440 46 = z := ⟨_, rfl⟩
                      have b465 : Bd v463 (0) (8) := (by rw [← ee464]; exact b442.2.2.2.2.1 46 (by decide))
                      have q466 : elm (S437 7) 46 = v463.toInt := (elm_of c441 46).trans (congrArg Int32.toInt (ee464))
                      have b467 : Bd v463 (0) (0) := ⟨(b465).1, by omega⟩
                      obtain ⟨v468, ee469⟩ : ∃ z : Int32, f440 47 = z := ⟨_, rfl⟩
                      have b470 : Bd v468 (0) (6) := (by rw [← ee469]; exact b442.2.2.2.2.2.1 47 (by decide))
                      have q471 : elm (S437 7) 47 = v468.toInt := (elm_of c441 47).trans (congrArg Int32.toInt (ee469))
                      have b472 : Bd v468 (0) (0) := ⟨(b470).1, by omega⟩
                      obtain ⟨v473, ee474⟩ : ∃ z : Int32, f440 48 = z := ⟨_, rfl⟩
                      have b475 : Bd v473 (0) (3) := (by rw [← ee474]; exact b442.2.2.2.2.2.2.1 48 (by decide))
                      have q476 : elm (S437 7) 48 = v473.toInt := (elm_of c441 48).trans (congrArg Int32.toInt (ee474))
                      have b477 : Bd v473 (0) (0) := ⟨(b475).1, by omega⟩
                      refine lv_iinc (v := 10) (lv' := [(1, .int 10), (0, .ref (ad 0))]) hx hb dX12_clears_21 hl (k := 0) rfl (by decide) (by decide) rfl (fun ls hl => ?_)
                      refine lv_goto (tgt := 9) hx hb dX12_clears_24 (by decide) ?_
                      refine lv_iload_n hx hb dX12_clears_9 rfl (lv_at hl 0 rfl) ?_
                      refine lv_bipush (v := 10) hx hb dX12_clears_10 (by decide) ?_
                      refine lv_icmp_ge (tgt := 27) hx hb dX12_clears_12 (by decide) (fun k478 => ?_) (fun k478 => ?_)
                      · have h479 := ib_le k478
                        refine lv_iconst (v := 0) hx hb dX12_clears_27 (by decide) ?_
                        refine lv_istore_n (lv' := [(1, .int 0), (0, .ref (ad 0))]) hx hb dX12_clears_28 rfl hl (by decide) rfl (fun ls hl => ?_)
                        have loop29 : ∀ (n : Nat) (S_29 : SS) (H : Heap) (locs : List Loc) (ls : Array Slot) (x29_1 : Int32), Bd x29_1 (0) (35) → (-1) * x29_1.toInt + 35 < ((n : Nat) : Int) → InvM g ad S_29 → (∀ j, j ∉ ([8] : List Nat) → S_29 j = S437 j) → Hp g ad 20 S_29 (FA ad 20) s.heap H locs → lv_has ls 2 [(1, .int x29_1), (0, .ref (ad 0))] → W p l e (Rm 1) s m [.ref (ad 0)].toArray below meth c H locs 0 0 (MQ below (va_Qv (fun S' => InvM g ad S' ∧ (∀ j, j ∉ ([6, 7, 8] : List Nat) → S' j = S j) ∧ (0 ≤ (-1) * elm (S' 7) 40 ∧ 0 ≤ elm (S' 7) 40) ∧ (0 ≤ (-1) * elm (S' 7) 41 ∧ 0 ≤ elm (S' 7) 41) ∧ (0 ≤ (-1) * elm (S' 7) 43 ∧ 0 ≤ elm (S' 7) 43) ∧ (0 ≤ (-1) * elm (S' 7) 46 ∧ 0 ≤ elm (S' 7) 46) ∧ (0 ≤ (-1) * elm (S' 7) 47 ∧ 0 ≤ elm (S' 7) 47) ∧ (0 ≤ (-1) * elm (S' 7) 48 ∧ 0 ≤ elm (S' 7) 48) ∧ (0 ≤ (-1) * elm (S' 7) 49 ∧ 0 ≤ elm (S' 7) 49) ∧ (0 ≤ (-1) * elm (S' 6) 4 ∧ 0 ≤ elm (S' 6) 4) ∧ EFp (S' 7) (S 7) 0 40 ∧ EFp (S' 6) (S 6) 0 4) (QB g ad 20) (FA ad 20)) [.ref (ad 0)].toArray s 0 0 (FA ad 20)) (F0 m 29 ls []) := by
                          intro n
                          induction n with
                          | zero => intro S_29 H locs ls x29_1 Bx29_1 hn29_ hI hf29 hQ hl; exfalso; have := (Bx29_1).2; omega
                          | succ n29_ ih29 =>
                            intro S_29 H locs ls x29_1 Bx29_1 hn29_ hI hf29 hQ hl
                            refine lv_iload_n hx hb dX12_clears_29 rfl (lv_at hl 0 rfl) ?_
                            refine lv_bipush (v := 24) hx hb dX12_clears_30 (by decide) ?_
                            refine lv_icmp_ge (tgt := 51) hx hb dX12_clears_32 (by decide) (fun k480 => ?_) (fun k480 => ?_)
                            · have h481 := ib_le k480
                              have b482 : Bd x29_1 (24) (35) := ⟨((rf_le (by decide : Bd 24 (24) (24)) Bx29_1 h481).2).1, (Bx29_1).2⟩
                              have c483 : S_29 7 = .inl (g.2 0, 50, .inl f440) := ((hf29 7 (by decide)).trans c441)
                              have q484 : elm (S_29 7) 40 = v448.toInt := (elm_of c483 40).trans (congrArg Int32.toInt (ee449))
                              have q485 : elm (S_29 7) 41 = v453.toInt := (elm_of c483 41).trans (congrArg Int32.toInt (ee454))
                              have q486 : elm (S_29 7) 43 = v458.toInt := (elm_of c483 43).trans (congrArg Int32.toInt (ee459))
                              have q487 : elm (S_29 7) 46 = v463.toInt := (elm_of c483 46).trans (congrArg Int32.toInt (ee464))
                              have q488 : elm (S_29 7) 47 = v468.toInt := (elm_of c483 47).trans (congrArg Int32.toInt (ee469))
                              have q489 : elm (S_29 7) 48 = v473.toInt := (elm_of c483 48).trans (congrArg Int32.toInt (ee474))
                              have q490 : elm (S_29 7) 49 = v443.toInt := (elm_of c483 49).trans (congrArg Int32.toInt (ee444))
                              have c491 : S_29 6 = .inl (g.2 0, 5, .inl (upd f25 (4 : Int32).toNatClampNeg 0)) := ((hf29 6 (by decide)).trans ((o437 6 (by decide)).trans ((o394 6 (by decide)).trans ((o352 6 (by decide)).trans ((o311 6 (by decide)).trans ((o271 6 (by decide)).trans ((o231 6 (by decide)).trans ((o191 6 (by decide)).trans ((o152 6 (by decide)).trans ((o113 6 (by decide)).trans ((o68 6 (by decide)).trans c61)))))))))))
                              have q492 : elm (S_29 6) 4 = 0 := (elm_of c491 4).trans ((congrArg Int32.toInt ((upd_s))).trans (by decide))
                              exact xrv E hr hlk hQ (⟨hI, (o_trans (o_trans (o_trans (o_trans (o_trans (o_trans (o_trans (o_trans (o_trans (o_trans (o_trans (up_o o_refl eS60 (by decide)) o68 (by decide)) o113 (by decide)) o152 (by decide)) o191 (by decide)) o231 (by decide)) o271 (by decide)) o311 (by decide)) o352 (by decide)) o394 (by decide)) o437 (by decide)) hf29 (by decide)), ⟨by omega, by omega⟩, ⟨by omega, by omega⟩, ⟨by omega, by omega⟩, ⟨by omega, by omega⟩, ⟨by omega, by omega⟩, ⟨by omega, by omega⟩, ⟨by omega, by omega⟩, ⟨by omega, by omega⟩, (ef_tr ef439 (hf29 7 (by decide))), (ef_tr ef63 ((hf29 6 (by decide)).trans ((o437 6 (by decide)).trans ((o394 6 (by decide)).trans ((o352 6 (by decide)).trans ((o311 6 (by decide)).trans ((o271 6 (by decide)).trans ((o231 6 (by decide)).trans ((o191 6 (by decide)).trans ((o152 6 (by decide)).trans ((o113 6 (by decide)).trans (o68 6 (by decide)))))))))))))⟩) dX12_clears_51
                            · have h493 := ib_nle k480
                              have b494 : Bd x29_1 (0) (23) := ⟨(Bx29_1).1, ((rf_lt Bx29_1 (by decide : Bd 24 (24) (24)) h493).1).2⟩
                              refine lv_aload_n hx hb dX12_clears_35 rfl (lv_at hl 1 rfl) ?_
                              have c495 : S_29 0 = .inr (12, [.int v31, .ref (ad 1), .ref (ad 2), .ref (ad 3), .ref (ad 4), .ref (ad 5), .int v32, .int v34, .int v36, .int v38, .int v39, .long w40, .int v41, .int v43, .int v44, .int v45, .ref (ad 6), .ref (ad 7), .ref (ad 8), .ref (ad 9), .ref (ad 10), .ref (ad 11), .ref (ad 12), .ref (ad 13), .ref (ad 14), .ref (ad 15), .int v46, .int v48, .ref (ad 16), .int v50, .int v52, .int v54, .int v56, .int v57, .ref (ad 17), .ref (ad 18), .int v58, .ref (ad 19)]) := ((hf29 0 (by decide)).trans ((o437 0 (by decide)).trans c438))
                              refine xget E hQ 0 (by decide) c495 rfl 18 (by decide) q1486 rfl dX12_clears_36 ?_
                              refine lv_bipush (v := 96) hx hb dX12_clears_39 (by decide) ?_
                              refine lv_iload_n hx hb dX12_clears_41 rfl (lv_at hl 0 rfl) ?_
                              refine lv_iadd hx hb dX12_clears_42 ?_
                              refine lv_topi (fun z496 e497 => ?_)
                              have t498 := ib_add e497 (by decide : Bd 96 (96) (96)) b494 (by decide) (by decide)
                              have b499 : Bd z496 (96) (119) := ib_addb t498 (by decide : Bd 96 (96) (96)) b494
                              have t498 : z496.toInt = 96 + x29_1.toInt := fold_add t498 (by decide) rfl
                              refine lv_iconst (v := 0) hx hb dX12_clears_43 (by decide) ?_
                              obtain ⟨f500, c501⟩ := invM_8 hI
                              refine xiast E hs hQ 8 (by decide) c501 (ib_in b499 (by decide) (by decide)) dX12_clears_44 (fun H locs S503 eS503 hQ => ?_)
                              have hI := invM_up_8 hI eS503 ⟨_, rfl⟩
                              have c504 : S503 8 = .inl (g.2 0, 120, .inl (upd f500 (z496 : Int32).toNatClampNeg 0)) := up_at eS503 rfl
                              obtain ⟨z505, e506⟩ : ∃ z : Int32, z = x29_1 + 1 := ⟨_, rfl⟩
                              have t507 := ib_add e506 b494 (by decide : Bd 1 (1) (1)) (by decide) (by decide)
                              have b508 : Bd z505 (1) (24) := ib_addb t507 b494 (by decide : Bd 1 (1) (1))
                              have t507 : z505.toInt = x29_1.toInt + 1 := fold_add t507 rfl (by decide)
                              refine lv_iinc (v := z505) (lv' := [(1, .int z505), (0, .ref (ad 0))]) hx hb dX12_clears_45 hl (k := 0) rfl (by rw [e506]; rfl) (by decide) rfl (fun ls hl => ?_)
                              refine lv_goto (tgt := 29) hx hb dX12_clears_48 (by decide) ?_
                              exact ih29 _ _ _ _ z505 (ib_wk b508 (by decide) (by decide)) (by omega) hI (up_o hf29 eS503 (by decide)) hQ (lv_sub hl [0, 1] rfl)
                        obtain ⟨n29, hn29⟩ := fu_n (35)
                        exact loop29 n29 _ _ _ _ 0 (ib_wk (by decide : Bd 0 (0) (0)) (by decide) (by decide)) (by have : (0 : Int32).toInt = 0 := (by decide); omega) hI o_refl hQ (lv_sub hl [0, 1] rfl)
                      · have h509 := ib_nle k478
                        exact absurd h509 (by decide)
