set_option maxHeartbeats 4000000 in
set_option maxRecDepth 100000 in
theorem uX12_in (l : Launch) (g : GG) (ad : Nat → Nat) (N : Nat) (hD : Dj ad N) (S : SS) (a1 : Int64) (a2 : Int64) (a3 : Int64) : Met l yX12_in (wG (.code yX12_in cX12_in 6 (some .boolean))) (Rm 0) (XPre g ad N S [.long a1, .long a2, .long a3]) (va_Qi (fun r S' => S = S' ∧ ((r = 1 ∧ a2 ≤ a1 ∧ a1 ≤ a3) ∨ (r = 0 ∧ ¬ (a2 ≤ a1 ∧ a1 ≤ a3)))) (QB g ad N) (FA ad N)) 0 0 (FA ad N) := by
  refine xmet cX12_in "EbbWreckModel" (by decide) rfl (Nat.le_of_ble_eq_true rfl) (fun p e s m below meth c E hr hlk hml hQ ls hl => ?_)
  have hx := E.1
  have hb := E.2.1
  have hs : Sp ad N (FA ad N) := Sp.fa hD
  have hl : lv_has ls 6 [(0, .long a1), (2, .long a2), (4, .long a3)] := hl
  refine lv_lload_n hx hb dX12_in_0 rfl (lv_at hl 0 rfl) ?_
  refine lv_lload_n hx hb dX12_in_1 rfl (lv_at hl 1 rfl) ?_
  refine W.lcmp hx hb dX12_in_2 ?_
  refine lv_if_lt (tgt := 17) hx hb dX12_in_3 (by decide) (fun k_1 => ?_) (fun k_1 => ?_)
  · refine lv_iconst (v := 0) hx hb dX12_in_17 (by decide) ?_
    exact xrz E hr hlk hQ rfl (⟨rfl, Or.inr ⟨rfl, fun h => Int64.not_lt.mpr h.1 ((lg_cmp_lt _ _).mp k_1)⟩⟩) dX12_in_18
  · refine lv_lload_n hx hb dX12_in_6 rfl (lv_at hl 0 rfl) ?_
    refine lv_lload hx hb dX12_in_7 (lv_at hl 2 rfl) ?_
    refine W.lcmp hx hb dX12_in_9 ?_
    refine lv_if_gt (tgt := 17) hx hb dX12_in_10 (by decide) (fun k_2 => ?_) (fun k_2 => ?_)
    · refine lv_iconst (v := 0) hx hb dX12_in_17 (by decide) ?_
      exact xrz E hr hlk hQ rfl (⟨rfl, Or.inr ⟨rfl, fun h => Int64.not_lt.mpr h.2 ((lg_cmp_gt _ _).mp k_2)⟩⟩) dX12_in_18
    · refine lv_iconst (v := 1) hx hb dX12_in_13 (by decide) ?_
      refine lv_goto (tgt := 18) hx hb dX12_in_14 (by decide) ?_
      exact xrz E hr hlk hQ rfl (⟨rfl, Or.inl ⟨rfl, Int64.not_lt.mp (fun h => k_1 ((lg_cmp_lt _ _).mpr h)), Int64.not_lt.mp (fun h => k_2 ((lg_cmp_gt _ _).mpr h))⟩⟩) dX12_in_18
set_option maxHeartbeats 4000000 in
set_option maxRecDepth 100000 in
theorem fX12_isShore (l : Launch) (g : GG) (ad : Nat → Nat) (hD : Dj ad 20) (S : SS) (hX : ∀ i, i < 20 → S i = M0 g ad i) : Met l yX12_isShore (wG (.code yX12_isShore cX12_isShore 1 (some .boolean))) (Rm 0) (XPre g ad 20 S [.ref (ad 0)]) (va_Qi (fun r S' => S = S' ∧ r = 0) (QB g ad 20) (FA ad 20)) 0 0 (FA ad 20) := by
  refine xmet cX12_isShore "EbbWreckModel" (by decide) rfl (Nat.le_of_ble_eq_true rfl) (fun p e s m below meth c E hr hlk hml hQ ls hl => ?_)
  have hx := E.1
  have hb := E.2.1
  have hs : Sp ad 20 (FA ad 20) := Sp.fa hD
  have hl : lv_has ls 1 [(0, .ref (ad 0))] := hl
  refine lv_aload_n hx hb dX12_isShore_0 rfl (lv_at hl 0 rfl) ?_
  have c_1 : S 0 = .inr (12, [.int 0, .ref (ad 1), .ref (ad 2), .ref (ad 3), .ref (ad 4), .ref (ad 5), .int 0, .int 0, .int 0, .int 0, .int 0, .long 0, .int 0, .int 0, .int 0, .int (-1), .ref (ad 6), .ref (ad 7), .ref (ad 8), .ref (ad 9), .ref (ad 10), .ref (ad 11), .ref (ad 12), .ref (ad 13), .ref (ad 14), .ref (ad 15), .int 0, .int 0, .ref (ad 16), .int 0, .int 0, .int 0, .int 0, .int 0, .ref (ad 17), .ref (ad 18), .int 0, .ref (ad 19)]) := (hX 0 (by decide))
  refine xget E hQ 0 (by decide) c_1 rfl 16 (by decide) q1484 rfl dX12_isShore_1 ?_
  refine lv_iconst (v := 0) hx hb dX12_isShore_4 (by decide) ?_
  have c_2 : S 6 = .inl (g.2 0, 5, .inl zf) := (hX 6 (by decide))
  refine xiald E hQ 6 (by decide) c_2 (vp_in_lit 0 5 (by decide)) dX12_isShore_5 ?_
  refine sb_at (P := fun z => W _ _ _ _ _ _ _ _ _ _ _ _ _ _ _ (F0 _ _ _ (.int z :: _))) (show zf (0 : Int32).toNatClampNeg = 0 from rfl) ?_
  refine lv_if_le (tgt := 13) hx hb dX12_isShore_6 (by decide) (fun k_3 => ?_) (fun k_3 => absurd k_3 (by decide))
  refine lv_iconst (v := 0) hx hb dX12_isShore_13 (by decide) ?_
  exact xrz E hr hlk hQ rfl (⟨rfl, rfl⟩) dX12_isShore_14
set_option maxHeartbeats 4000000 in
set_option maxRecDepth 100000 in
theorem fX12_isCell (l : Launch) (g : GG) (ad : Nat → Nat) (hD : Dj ad 20) (S : SS) (hX : ∀ i, i < 20 → S i = M0 g ad i) (a1 : Int64) : Met l yX12_isCell (wG (.code yX12_isCell cX12_isCell 3 (some .boolean))) (Rm 1) (XPre g ad 20 S [.ref (ad 0), .long a1]) (va_Qi (fun r S' => S = S' ∧ r = 0) (QB g ad 20) (FA ad 20)) 0 0 (FA ad 20) := by
  refine xmet cX12_isCell "EbbWreckModel" (by decide) rfl (Nat.le_of_ble_eq_true rfl) (fun p e s m below meth c E hr hlk hml hQ ls hl => ?_)
  have hx := E.1
  have hb := E.2.1
  have hs : Sp ad 20 (FA ad 20) := Sp.fa hD
  have hl : lv_has ls 3 [(0, .ref (ad 0)), (1, .long a1)] := hl
  refine lv_lload_n hx hb dX12_isCell_0 rfl (lv_at hl 1 rfl) ?_
  refine lv_lconst (v := 0) hx hb dX12_isCell_1 (by decide) ?_
  refine lv_aload_n hx hb dX12_isCell_2 rfl (lv_at hl 0 rfl) ?_
  have c_1 : S 0 = .inr (12, [.int 0, .ref (ad 1), .ref (ad 2), .ref (ad 3), .ref (ad 4), .ref (ad 5), .int 0, .int 0, .int 0, .int 0, .int 0, .long 0, .int 0, .int 0, .int 0, .int (-1), .ref (ad 6), .ref (ad 7), .ref (ad 8), .ref (ad 9), .ref (ad 10), .ref (ad 11), .ref (ad 12), .ref (ad 13), .ref (ad 14), .ref (ad 15), .int 0, .int 0, .ref (ad 16), .int 0, .int 0, .int 0, .int 0, .int 0, .ref (ad 17), .ref (ad 18), .int 0, .ref (ad 19)]) := (hX 0 (by decide))
  refine xget E hQ 0 (by decide) c_1 rfl 17 (by decide) q1485 rfl dX12_isCell_3 ?_
  refine lv_iconst (v := 0) hx hb dX12_isCell_6 (by decide) ?_
  have c_2 : S 7 = .inl (g.2 0, 50, .inl zf) := (hX 7 (by decide))
  refine xiald E hQ 7 (by decide) c_2 (vp_in_lit 0 50 (by decide)) dX12_isCell_7 ?_
  refine sb_at (P := fun z => W _ _ _ _ _ _ _ _ _ _ _ _ _ _ _ (F0 _ _ _ (.int z :: _))) (show zf (0 : Int32).toNatClampNeg = 0 from rfl) ?_
  refine lv_i2l (v := 0) hx hb dX12_isCell_8 (by decide) ?_
  refine lv_lconst (v := 1) hx hb dX12_isCell_9 (by decide) ?_
  refine lv_lsub hx hb dX12_isCell_10 ?_
  refine sb_atl (P := fun z => W _ _ _ _ _ _ _ _ _ _ _ _ _ _ _ (F0 _ _ _ (.long z :: _))) (show (0 : Int64) - 1 = (-1) by decide) ?_
  refine xcSi E hs hQ hml hl.1 (uX12_in l g ad _ hD S a1 0 (-1)) mX12_in q1591 rfl ⟨by decide, by decide⟩ ⟨by decide, by decide⟩ (by decide) rfl dX12_isCell_11 (fun r3 S3 H locs hp3 hQ => ?_)
  obtain ⟨rfl, hp3⟩ := hp3
  have hz3 : r3 = 0 := by
    rcases hp3 with ⟨_, h1, h2⟩ | ⟨h, _⟩
    · exact absurd (Int64.le_trans h1 h2) (by decide)
    · exact h
  subst hz3
  exact xrz E hr hlk hQ rfl (⟨rfl, rfl⟩) dX12_isCell_14
set_option maxHeartbeats 4000000 in
set_option maxRecDepth 100000 in
theorem fX12_isThing (l : Launch) (g : GG) (ad : Nat → Nat) (hD : Dj ad 20) (S : SS) (hX : ∀ i, i < 20 → S i = M0 g ad i) (a1 : Int32) : Met l yX12_isThing (wG (.code yX12_isThing cX12_isThing 2 (some .boolean))) (Rm 1) (XPre g ad 20 S [.ref (ad 0), .int a1]) (va_Qi (fun r S' => S = S' ∧ r = 0) (QB g ad 20) (FA ad 20)) 0 0 (FA ad 20) := by
  refine xmet cX12_isThing "EbbWreckModel" (by decide) rfl (Nat.le_of_ble_eq_true rfl) (fun p e s m below meth c E hr hlk hml hQ ls hl => ?_)
  have hx := E.1
  have hb := E.2.1
  have hs : Sp ad 20 (FA ad 20) := Sp.fa hD
  have hl : lv_has ls 2 [(0, .ref (ad 0)), (1, .int a1)] := hl
  refine lv_iload_n hx hb dX12_isThing_0 rfl (lv_at hl 1 rfl) ?_
  refine lv_i2l hx hb dX12_isThing_1 rfl ?_
  refine lv_lconst (v := 0) hx hb dX12_isThing_2 (by decide) ?_
  refine lv_aload_n hx hb dX12_isThing_3 rfl (lv_at hl 0 rfl) ?_
  have c_1 : S 0 = .inr (12, [.int 0, .ref (ad 1), .ref (ad 2), .ref (ad 3), .ref (ad 4), .ref (ad 5), .int 0, .int 0, .int 0, .int 0, .int 0, .long 0, .int 0, .int 0, .int 0, .int (-1), .ref (ad 6), .ref (ad 7), .ref (ad 8), .ref (ad 9), .ref (ad 10), .ref (ad 11), .ref (ad 12), .ref (ad 13), .ref (ad 14), .ref (ad 15), .int 0, .int 0, .ref (ad 16), .int 0, .int 0, .int 0, .int 0, .int 0, .ref (ad 17), .ref (ad 18), .int 0, .ref (ad 19)]) := (hX 0 (by decide))
  refine xget E hQ 0 (by decide) c_1 rfl 17 (by decide) q1485 rfl dX12_isThing_4 ?_
  refine lv_bipush (v := 6) hx hb dX12_isThing_7 (by decide) ?_
  have c_2 : S 7 = .inl (g.2 0, 50, .inl zf) := (hX 7 (by decide))
  refine xiald E hQ 7 (by decide) c_2 (vp_in_lit 6 50 (by decide)) dX12_isThing_9 ?_
  refine sb_at (P := fun z => W _ _ _ _ _ _ _ _ _ _ _ _ _ _ _ (F0 _ _ _ (.int z :: _))) (show zf (6 : Int32).toNatClampNeg = 0 from rfl) ?_
  refine lv_iconst (v := 1) hx hb dX12_isThing_10 (by decide) ?_
  refine lv_isub hx hb dX12_isThing_11 ?_
  refine sb_at (P := fun z => W _ _ _ _ _ _ _ _ _ _ _ _ _ _ _ (F0 _ _ _ (.int z :: _))) (show (0 : Int32) - 1 = (-1) by decide) ?_
  refine lv_i2l (v := (-1)) hx hb dX12_isThing_12 (by decide) ?_
  refine xcSi E hs hQ hml hl.1 (uX12_in l g ad _ hD S a1.toInt64 0 (-1)) mX12_in q1591 rfl ⟨by decide, by decide⟩ ⟨by decide, by decide⟩ (by decide) rfl dX12_isThing_13 (fun r3 S3 H locs hp3 hQ => ?_)
  obtain ⟨rfl, hp3⟩ := hp3
  have hz3 : r3 = 0 := by
    rcases hp3 with ⟨_, h1, h2⟩ | ⟨h, _⟩
    · exact absurd (Int64.le_trans h1 h2) (by decide)
    · exact h
  subst hz3
  exact xrz E hr hlk hQ rfl (⟨rfl, rfl⟩) dX12_isThing_16
set_option maxHeartbeats 4000000 in
set_option maxRecDepth 100000 in
theorem fX12_isRule (l : Launch) (g : GG) (ad : Nat → Nat) (hD : Dj ad 20) (S : SS) (hX : ∀ i, i < 20 → S i = M0 g ad i) (a1 : Int32) : Met l yX12_isRule (wG (.code yX12_isRule cX12_isRule 2 (some .boolean))) (Rm 1) (XPre g ad 20 S [.ref (ad 0), .int a1]) (va_Qi (fun r S' => S = S' ∧ r = 0) (QB g ad 20) (FA ad 20)) 0 0 (FA ad 20) := by
  refine xmet cX12_isRule "EbbWreckModel" (by decide) rfl (Nat.le_of_ble_eq_true rfl) (fun p e s m below meth c E hr hlk hml hQ ls hl => ?_)
  have hx := E.1
  have hb := E.2.1
  have hs : Sp ad 20 (FA ad 20) := Sp.fa hD
  have hl : lv_has ls 2 [(0, .ref (ad 0)), (1, .int a1)] := hl
  refine lv_iload_n hx hb dX12_isRule_0 rfl (lv_at hl 1 rfl) ?_
  refine lv_i2l hx hb dX12_isRule_1 rfl ?_
  refine lv_lconst (v := 0) hx hb dX12_isRule_2 (by decide) ?_
  refine lv_aload_n hx hb dX12_isRule_3 rfl (lv_at hl 0 rfl) ?_
  have c_1 : S 0 = .inr (12, [.int 0, .ref (ad 1), .ref (ad 2), .ref (ad 3), .ref (ad 4), .ref (ad 5), .int 0, .int 0, .int 0, .int 0, .int 0, .long 0, .int 0, .int 0, .int 0, .int (-1), .ref (ad 6), .ref (ad 7), .ref (ad 8), .ref (ad 9), .ref (ad 10), .ref (ad 11), .ref (ad 12), .ref (ad 13), .ref (ad 14), .ref (ad 15), .int 0, .int 0, .ref (ad 16), .int 0, .int 0, .int 0, .int 0, .int 0, .ref (ad 17), .ref (ad 18), .int 0, .ref (ad 19)]) := (hX 0 (by decide))
  refine xget E hQ 0 (by decide) c_1 rfl 17 (by decide) q1485 rfl dX12_isRule_4 ?_
  refine lv_bipush (v := 7) hx hb dX12_isRule_7 (by decide) ?_
  have c_2 : S 7 = .inl (g.2 0, 50, .inl zf) := (hX 7 (by decide))
  refine xiald E hQ 7 (by decide) c_2 (vp_in_lit 7 50 (by decide)) dX12_isRule_9 ?_
  refine sb_at (P := fun z => W _ _ _ _ _ _ _ _ _ _ _ _ _ _ _ (F0 _ _ _ (.int z :: _))) (show zf (7 : Int32).toNatClampNeg = 0 from rfl) ?_
  refine lv_iconst (v := 1) hx hb dX12_isRule_10 (by decide) ?_
  refine lv_isub hx hb dX12_isRule_11 ?_
  refine sb_at (P := fun z => W _ _ _ _ _ _ _ _ _ _ _ _ _ _ _ (F0 _ _ _ (.int z :: _))) (show (0 : Int32) - 1 = (-1) by decide) ?_
  refine lv_i2l (v := (-1)) hx hb dX12_isRule_12 (by decide) ?_
  refine xcSi E hs hQ hml hl.1 (uX12_in l g ad _ hD S a1.toInt64 0 (-1)) mX12_in q1591 rfl ⟨by decide, by decide⟩ ⟨by decide, by decide⟩ (by decide) rfl dX12_isRule_13 (fun r3 S3 H locs hp3 hQ => ?_)
  obtain ⟨rfl, hp3⟩ := hp3
  have hz3 : r3 = 0 := by
    rcases hp3 with ⟨_, h1, h2⟩ | ⟨h, _⟩
    · exact absurd (Int64.le_trans h1 h2) (by decide)
    · exact h
  subst hz3
  exact xrz E hr hlk hQ rfl (⟨rfl, rfl⟩) dX12_isRule_16
set_option maxHeartbeats 4000000 in
set_option maxRecDepth 100000 in
theorem fX12_isSitter (l : Launch) (g : GG) (ad : Nat → Nat) (hD : Dj ad 20) (S : SS) (hX : ∀ i, i < 20 → S i = M0 g ad i) (a1 : Int32) : Met l yX12_isSitter (wG (.code yX12_isSitter cX12_isSitter 2 (some .boolean))) (Rm 1) (XPre g ad 20 S [.ref (ad 0), .int a1]) (va_Qi (fun r S' => S = S' ∧ r = 0) (QB g ad 20) (FA ad 20)) 0 0 (FA ad 20) := by
  refine xmet cX12_isSitter "EbbWreckModel" (by decide) rfl (Nat.le_of_ble_eq_true rfl) (fun p e s m below meth c E hr hlk hml hQ ls hl => ?_)
  have hx := E.1
  have hb := E.2.1
  have hs : Sp ad 20 (FA ad 20) := Sp.fa hD
  have hl : lv_has ls 2 [(0, .ref (ad 0)), (1, .int a1)] := hl
  refine lv_iload_n hx hb dX12_isSitter_0 rfl (lv_at hl 1 rfl) ?_
  refine lv_i2l hx hb dX12_isSitter_1 rfl ?_
  refine lv_lconst (v := 0) hx hb dX12_isSitter_2 (by decide) ?_
  refine lv_aload_n hx hb dX12_isSitter_3 rfl (lv_at hl 0 rfl) ?_
  have c_1 : S 0 = .inr (12, [.int 0, .ref (ad 1), .ref (ad 2), .ref (ad 3), .ref (ad 4), .ref (ad 5), .int 0, .int 0, .int 0, .int 0, .int 0, .long 0, .int 0, .int 0, .int 0, .int (-1), .ref (ad 6), .ref (ad 7), .ref (ad 8), .ref (ad 9), .ref (ad 10), .ref (ad 11), .ref (ad 12), .ref (ad 13), .ref (ad 14), .ref (ad 15), .int 0, .int 0, .ref (ad 16), .int 0, .int 0, .int 0, .int 0, .int 0, .ref (ad 17), .ref (ad 18), .int 0, .ref (ad 19)]) := (hX 0 (by decide))
  refine xget E hQ 0 (by decide) c_1 rfl 17 (by decide) q1485 rfl dX12_isSitter_4 ?_
  refine lv_bipush (v := 8) hx hb dX12_isSitter_7 (by decide) ?_
  have c_2 : S 7 = .inl (g.2 0, 50, .inl zf) := (hX 7 (by decide))
  refine xiald E hQ 7 (by decide) c_2 (vp_in_lit 8 50 (by decide)) dX12_isSitter_9 ?_
  refine sb_at (P := fun z => W _ _ _ _ _ _ _ _ _ _ _ _ _ _ _ (F0 _ _ _ (.int z :: _))) (show zf (8 : Int32).toNatClampNeg = 0 from rfl) ?_
  refine lv_iconst (v := 1) hx hb dX12_isSitter_10 (by decide) ?_
  refine lv_isub hx hb dX12_isSitter_11 ?_
  refine sb_at (P := fun z => W _ _ _ _ _ _ _ _ _ _ _ _ _ _ _ (F0 _ _ _ (.int z :: _))) (show (0 : Int32) - 1 = (-1) by decide) ?_
  refine lv_i2l (v := (-1)) hx hb dX12_isSitter_12 (by decide) ?_
  refine xcSi E hs hQ hml hl.1 (uX12_in l g ad _ hD S a1.toInt64 0 (-1)) mX12_in q1591 rfl ⟨by decide, by decide⟩ ⟨by decide, by decide⟩ (by decide) rfl dX12_isSitter_13 (fun r3 S3 H locs hp3 hQ => ?_)
  obtain ⟨rfl, hp3⟩ := hp3
  have hz3 : r3 = 0 := by
    rcases hp3 with ⟨_, h1, h2⟩ | ⟨h, _⟩
    · exact absurd (Int64.le_trans h1 h2) (by decide)
    · exact h
  subst hz3
  exact xrz E hr hlk hQ rfl (⟨rfl, rfl⟩) dX12_isSitter_16
set_option maxHeartbeats 4000000 in
set_option maxRecDepth 100000 in
theorem fX12_isParty (l : Launch) (g : GG) (ad : Nat → Nat) (hD : Dj ad 20) (S : SS) (hX : ∀ i, i < 20 → S i = M0 g ad i) (a1 : Int32) : Met l yX12_isParty (wG (.code yX12_isParty cX12_isParty 2 (some .boolean))) (Rm 1) (XPre g ad 20 S [.ref (ad 0), .int a1]) (va_Qi (fun r S' => S = S' ∧ r = 0) (QB g ad 20) (FA ad 20)) 0 0 (FA ad 20) := by
  refine xmet cX12_isParty "EbbWreckModel" (by decide) rfl (Nat.le_of_ble_eq_true rfl) (fun p e s m below meth c E hr hlk hml hQ ls hl => ?_)
  have hx := E.1
  have hb := E.2.1
  have hs : Sp ad 20 (FA ad 20) := Sp.fa hD
  have hl : lv_has ls 2 [(0, .ref (ad 0)), (1, .int a1)] := hl
  refine lv_aload_n hx hb dX12_isParty_0 rfl (lv_at hl 0 rfl) ?_
  have c_1 : S 0 = .inr (12, [.int 0, .ref (ad 1), .ref (ad 2), .ref (ad 3), .ref (ad 4), .ref (ad 5), .int 0, .int 0, .int 0, .int 0, .int 0, .long 0, .int 0, .int 0, .int 0, .int (-1), .ref (ad 6), .ref (ad 7), .ref (ad 8), .ref (ad 9), .ref (ad 10), .ref (ad 11), .ref (ad 12), .ref (ad 13), .ref (ad 14), .ref (ad 15), .int 0, .int 0, .ref (ad 16), .int 0, .int 0, .int 0, .int 0, .int 0, .ref (ad 17), .ref (ad 18), .int 0, .ref (ad 19)]) := (hX 0 (by decide))
  refine xcVi E hs hQ hml hl.1 0 (fX12_isShore l g ad hD S hX ) mX12_isShore q1782 (by decide) c_1 rfl rfl ⟨by decide, by decide⟩ ⟨by decide, by decide⟩ (by decide) rfl dX12_isParty_1 (fun r2 S2 H locs hp2 hQ _ => ?_)
  obtain ⟨rfl, rfl⟩ := hp2
  refine lv_if_eq (tgt := 23) hx hb dX12_isParty_4 (by decide) (fun k_3 => ?_) (fun k_3 => absurd k_3 (by decide))
  refine lv_iconst (v := 0) hx hb dX12_isParty_23 (by decide) ?_
  exact xrz E hr hlk hQ rfl (⟨rfl, rfl⟩) dX12_isParty_24
set_option maxHeartbeats 4000000 in
set_option maxRecDepth 100000 in
theorem fX12_isPush (l : Launch) (g : GG) (ad : Nat → Nat) (hD : Dj ad 20) (S : SS) (hX : ∀ i, i < 20 → S i = M0 g ad i) (a1 : Int32) (a2 : Int32) : Met l yX12_isPush (wG (.code yX12_isPush cX12_isPush 3 (some .boolean))) (Rm 2) (XPre g ad 20 S [.ref (ad 0), .int a1, .int a2]) (va_Qi (fun r S' => S = S' ∧ r = 0) (QB g ad 20) (FA ad 20)) 0 0 (FA ad 20) := by
  refine xmet cX12_isPush "EbbWreckModel" (by decide) rfl (Nat.le_of_ble_eq_true rfl) (fun p e s m below meth c E hr hlk hml hQ ls hl => ?_)
  have hx := E.1
  have hb := E.2.1
  have hs : Sp ad 20 (FA ad 20) := Sp.fa hD
  have hl : lv_has ls 3 [(0, .ref (ad 0)), (1, .int a1), (2, .int a2)] := hl
  refine lv_aload_n hx hb dX12_isPush_0 rfl (lv_at hl 0 rfl) ?_
  refine lv_iload_n hx hb dX12_isPush_1 rfl (lv_at hl 1 rfl) ?_
  have c_1 : S 0 = .inr (12, [.int 0, .ref (ad 1), .ref (ad 2), .ref (ad 3), .ref (ad 4), .ref (ad 5), .int 0, .int 0, .int 0, .int 0, .int 0, .long 0, .int 0, .int 0, .int 0, .int (-1), .ref (ad 6), .ref (ad 7), .ref (ad 8), .ref (ad 9), .ref (ad 10), .ref (ad 11), .ref (ad 12), .ref (ad 13), .ref (ad 14), .ref (ad 15), .int 0, .int 0, .ref (ad 16), .int 0, .int 0, .int 0, .int 0, .int 0, .ref (ad 17), .ref (ad 18), .int 0, .ref (ad 19)]) := (hX 0 (by decide))
  refine xcVi E hs hQ hml hl.1 0 (fX12_isThing l g ad hD S hX a1) mX12_isThing q1766 (by decide) c_1 rfl rfl ⟨by decide, by decide⟩ ⟨by decide, by decide⟩ (by decide) rfl dX12_isPush_2 (fun r2 S2 H locs hp2 hQ _ => ?_)
  obtain ⟨rfl, rfl⟩ := hp2
  refine lv_if_eq (tgt := 20) hx hb dX12_isPush_5 (by decide) (fun k_3 => ?_) (fun k_3 => absurd k_3 (by decide))
  refine lv_iconst (v := 0) hx hb dX12_isPush_20 (by decide) ?_
  exact xrz E hr hlk hQ rfl (⟨rfl, rfl⟩) dX12_isPush_21
set_option maxHeartbeats 4000000 in
set_option maxRecDepth 100000 in
theorem fX12_isDraw (l : Launch) (g : GG) (ad : Nat → Nat) (hD : Dj ad 20) (S : SS) (hX : ∀ i, i < 20 → S i = M0 g ad i) (a1 : Int32) (a2 : Int32) : Met l yX12_isDraw (wG (.code yX12_isDraw cX12_isDraw 3 (some .boolean))) (Rm 2) (XPre g ad 20 S [.ref (ad 0), .int a1, .int a2]) (va_Qi (fun r S' => S = S' ∧ r = 0) (QB g ad 20) (FA ad 20)) 0 0 (FA ad 20) := by
  refine xmet cX12_isDraw "EbbWreckModel" (by decide) rfl (Nat.le_of_ble_eq_true rfl) (fun p e s m below meth c E hr hlk hml hQ ls hl => ?_)
  have hx := E.1
  have hb := E.2.1
  have hs : Sp ad 20 (FA ad 20) := Sp.fa hD
  have hl : lv_has ls 3 [(0, .ref (ad 0)), (1, .int a1), (2, .int a2)] := hl
  refine lv_iload_n hx hb dX12_isDraw_0 rfl (lv_at hl 1 rfl) ?_
  refine lv_i2l hx hb dX12_isDraw_1 rfl ?_
  refine lv_lconst (v := 0) hx hb dX12_isDraw_2 (by decide) ?_
  refine lv_ldc2 (v := 2000000000) hx hb E.2.2.1 (E.2.2.2.1 _ q1786) dX12_isDraw_3 ?_
  refine xcSi E hs hQ hml hl.1 (uX12_in l g ad _ hD S a1.toInt64 0 2000000000) mX12_in q1591 rfl ⟨by decide, by decide⟩ ⟨by decide, by decide⟩ (by decide) rfl dX12_isDraw_6 (fun r1 S1 H locs hp1 hQ => ?_)
  obtain ⟨rfl, hp1⟩ := hp1
  rcases hp1 with ⟨rfl, i1, j1⟩ | ⟨rfl, i1⟩
  · refine lv_if_eq (tgt := 24) hx hb dX12_isDraw_9 (by decide) (fun k_2 => absurd k_2 (by decide)) (fun k_2 => ?_)
    refine lv_aload_n hx hb dX12_isDraw_12 rfl (lv_at hl 0 rfl) ?_
    refine lv_iload_n hx hb dX12_isDraw_13 rfl (lv_at hl 2 rfl) ?_
    have c_3 : S 0 = .inr (12, [.int 0, .ref (ad 1), .ref (ad 2), .ref (ad 3), .ref (ad 4), .ref (ad 5), .int 0, .int 0, .int 0, .int 0, .int 0, .long 0, .int 0, .int 0, .int 0, .int (-1), .ref (ad 6), .ref (ad 7), .ref (ad 8), .ref (ad 9), .ref (ad 10), .ref (ad 11), .ref (ad 12), .ref (ad 13), .ref (ad 14), .ref (ad 15), .int 0, .int 0, .ref (ad 16), .int 0, .int 0, .int 0, .int 0, .int 0, .ref (ad 17), .ref (ad 18), .int 0, .ref (ad 19)]) := (hX 0 (by decide))
    refine xcVi E hs hQ hml hl.1 0 (fX12_isThing l g ad hD S hX a2) mX12_isThing q1766 (by decide) c_3 rfl rfl ⟨by decide, by decide⟩ ⟨by decide, by decide⟩ (by decide) rfl dX12_isDraw_14 (fun r4 S4 H locs hp4 hQ _ => ?_)
    obtain ⟨rfl, rfl⟩ := hp4
    refine lv_if_eq (tgt := 24) hx hb dX12_isDraw_17 (by decide) (fun k_5 => ?_) (fun k_5 => absurd k_5 (by decide))
    refine lv_iconst (v := 0) hx hb dX12_isDraw_24 (by decide) ?_
    exact xrz E hr hlk hQ rfl (⟨rfl, rfl⟩) dX12_isDraw_25
  · refine lv_if_eq (tgt := 24) hx hb dX12_isDraw_9 (by decide) (fun k_6 => ?_) (fun k_6 => absurd k_6 (by decide))
    refine lv_iconst (v := 0) hx hb dX12_isDraw_24 (by decide) ?_
    exact xrz E hr hlk hQ rfl (⟨rfl, rfl⟩) dX12_isDraw_25
set_option maxHeartbeats 4000000 in
set_option maxRecDepth 100000 in
theorem fX12_cell (l : Launch) (g : GG) (ad : Nat → Nat) (hD : Dj ad 20) (S : SS) (hX : ∀ i, i < 20 → S i = M0 g ad i) (a1 : Int32) (a2 : Int32) : Met l yX12_cell (wG (.code yX12_cell cX12_cell 3 (some .int))) (Rm 2) (XPre g ad 20 S [.ref (ad 0), .int a1, .int a2]) (va_Qi (fun r _ => r = (-1000)) (QB g ad 20) (FA ad 20)) 0 0 (FA ad 20) := by
  refine xmet cX12_cell "EbbWreckModel" (by decide) rfl (Nat.le_of_ble_eq_true rfl) (fun p e s m below meth c E hr hlk hml hQ ls hl => ?_)
  have hx := E.1
  have hb := E.2.1
  have hs : Sp ad 20 (FA ad 20) := Sp.fa hD
  have hl : lv_has ls 3 [(0, .ref (ad 0)), (1, .int a1), (2, .int a2)] := hl
  refine lv_aload_n hx hb dX12_cell_0 rfl (lv_at hl 0 rfl) ?_
  refine lv_iconst (v := 0) hx hb dX12_cell_1 (by decide) ?_
  have c_1 : S 0 = .inr (12, [.int 0, .ref (ad 1), .ref (ad 2), .ref (ad 3), .ref (ad 4), .ref (ad 5), .int 0, .int 0, .int 0, .int 0, .int 0, .long 0, .int 0, .int 0, .int 0, .int (-1), .ref (ad 6), .ref (ad 7), .ref (ad 8), .ref (ad 9), .ref (ad 10), .ref (ad 11), .ref (ad 12), .ref (ad 13), .ref (ad 14), .ref (ad 15), .int 0, .int 0, .ref (ad 16), .int 0, .int 0, .int 0, .int 0, .int 0, .ref (ad 17), .ref (ad 18), .int 0, .ref (ad 19)]) := (hX 0 (by decide))
  refine xputi E hs hQ 0 (by decide) c_1 rfl 0 (by decide) q1468 rfl rfl (Nat.le_of_ble_eq_true rfl) dX12_cell_2 (fun H locs S2 e2 hQ => ?_)
  have hX : ∀ i, i < 20 → S2 i = M0 g ad i := same_up hX e2 rfl
  refine lv_aload_n hx hb dX12_cell_5 rfl (lv_at hl 0 rfl) ?_
  refine lv_iload_n hx hb dX12_cell_6 rfl (lv_at hl 1 rfl) ?_
  refine lv_i2l hx hb dX12_cell_7 rfl ?_
  have c_3 : S2 0 = .inr (12, [.int 0, .ref (ad 1), .ref (ad 2), .ref (ad 3), .ref (ad 4), .ref (ad 5), .int 0, .int 0, .int 0, .int 0, .int 0, .long 0, .int 0, .int 0, .int 0, .int (-1), .ref (ad 6), .ref (ad 7), .ref (ad 8), .ref (ad 9), .ref (ad 10), .ref (ad 11), .ref (ad 12), .ref (ad 13), .ref (ad 14), .ref (ad 15), .int 0, .int 0, .ref (ad 16), .int 0, .int 0, .int 0, .int 0, .int 0, .ref (ad 17), .ref (ad 18), .int 0, .ref (ad 19)]) := (hX 0 (by decide))
  refine xcVi E hs hQ hml hl.1 0 (fX12_isCell l g ad hD S2 hX a1.toInt64) mX12_isCell q1750 (by decide) c_3 rfl rfl ⟨by decide, by decide⟩ ⟨by decide, by decide⟩ (by decide) rfl dX12_cell_8 (fun r4 S4 H locs hp4 hQ _ => ?_)
  obtain ⟨rfl, rfl⟩ := hp4
  refine lv_if_eq (tgt := 26) hx hb dX12_cell_11 (by decide) (fun k_5 => ?_) (fun k_5 => absurd k_5 (by decide))
  refine lv_sipush (v := (-1000)) hx hb dX12_cell_26 (by decide) ?_
  exact xri E hr hlk hQ (rfl) dX12_cell_29
set_option maxHeartbeats 4000000 in
set_option maxRecDepth 100000 in
theorem fX12_thing (l : Launch) (g : GG) (ad : Nat → Nat) (hD : Dj ad 20) (S : SS) (hX : ∀ i, i < 20 → S i = M0 g ad i) (a1 : Int32) (a2 : Int32) : Met l yX12_thing (wG (.code yX12_thing cX12_thing 3 (some .int))) (Rm 2) (XPre g ad 20 S [.ref (ad 0), .int a1, .int a2]) (va_Qi (fun r _ => r = (-2)) (QB g ad 20) (FA ad 20)) 0 0 (FA ad 20) := by
  refine xmet cX12_thing "EbbWreckModel" (by decide) rfl (Nat.le_of_ble_eq_true rfl) (fun p e s m below meth c E hr hlk hml hQ ls hl => ?_)
  have hx := E.1
  have hb := E.2.1
  have hs : Sp ad 20 (FA ad 20) := Sp.fa hD
  have hl : lv_has ls 3 [(0, .ref (ad 0)), (1, .int a1), (2, .int a2)] := hl
  refine lv_aload_n hx hb dX12_thing_0 rfl (lv_at hl 0 rfl) ?_
  refine lv_iconst (v := 0) hx hb dX12_thing_1 (by decide) ?_
  have c_1 : S 0 = .inr (12, [.int 0, .ref (ad 1), .ref (ad 2), .ref (ad 3), .ref (ad 4), .ref (ad 5), .int 0, .int 0, .int 0, .int 0, .int 0, .long 0, .int 0, .int 0, .int 0, .int (-1), .ref (ad 6), .ref (ad 7), .ref (ad 8), .ref (ad 9), .ref (ad 10), .ref (ad 11), .ref (ad 12), .ref (ad 13), .ref (ad 14), .ref (ad 15), .int 0, .int 0, .ref (ad 16), .int 0, .int 0, .int 0, .int 0, .int 0, .ref (ad 17), .ref (ad 18), .int 0, .ref (ad 19)]) := (hX 0 (by decide))
  refine xputi E hs hQ 0 (by decide) c_1 rfl 0 (by decide) q1468 rfl rfl (Nat.le_of_ble_eq_true rfl) dX12_thing_2 (fun H locs S2 e2 hQ => ?_)
  have hX : ∀ i, i < 20 → S2 i = M0 g ad i := same_up hX e2 rfl
  refine lv_aload_n hx hb dX12_thing_5 rfl (lv_at hl 0 rfl) ?_
  refine lv_iload_n hx hb dX12_thing_6 rfl (lv_at hl 1 rfl) ?_
  have c_3 : S2 0 = .inr (12, [.int 0, .ref (ad 1), .ref (ad 2), .ref (ad 3), .ref (ad 4), .ref (ad 5), .int 0, .int 0, .int 0, .int 0, .int 0, .long 0, .int 0, .int 0, .int 0, .int (-1), .ref (ad 6), .ref (ad 7), .ref (ad 8), .ref (ad 9), .ref (ad 10), .ref (ad 11), .ref (ad 12), .ref (ad 13), .ref (ad 14), .ref (ad 15), .int 0, .int 0, .ref (ad 16), .int 0, .int 0, .int 0, .int 0, .int 0, .ref (ad 17), .ref (ad 18), .int 0, .ref (ad 19)]) := (hX 0 (by decide))
  refine xcVi E hs hQ hml hl.1 0 (fX12_isThing l g ad hD S2 hX a1) mX12_isThing q1766 (by decide) c_3 rfl rfl ⟨by decide, by decide⟩ ⟨by decide, by decide⟩ (by decide) rfl dX12_thing_7 (fun r4 S4 H locs hp4 hQ _ => ?_)
  obtain ⟨rfl, rfl⟩ := hp4
  refine lv_if_eq (tgt := 38) hx hb dX12_thing_10 (by decide) (fun k_5 => ?_) (fun k_5 => absurd k_5 (by decide))
  refine lv_bipush (v := (-2)) hx hb dX12_thing_38 (by decide) ?_
  exact xri E hr hlk hQ (rfl) dX12_thing_40
set_option maxHeartbeats 4000000 in
set_option maxRecDepth 100000 in
theorem fX12_rule (l : Launch) (g : GG) (ad : Nat → Nat) (hD : Dj ad 20) (S : SS) (hX : ∀ i, i < 20 → S i = M0 g ad i) (a1 : Int32) (a2 : Int32) : Met l yX12_rule (wG (.code yX12_rule cX12_rule 3 (some .int))) (Rm 2) (XPre g ad 20 S [.ref (ad 0), .int a1, .int a2]) (va_Qi (fun r _ => r = (-2)) (QB g ad 20) (FA ad 20)) 0 0 (FA ad 20) := by
  refine xmet cX12_rule "EbbWreckModel" (by decide) rfl (Nat.le_of_ble_eq_true rfl) (fun p e s m below meth c E hr hlk hml hQ ls hl => ?_)
  have hx := E.1
  have hb := E.2.1
  have hs : Sp ad 20 (FA ad 20) := Sp.fa hD
  have hl : lv_has ls 3 [(0, .ref (ad 0)), (1, .int a1), (2, .int a2)] := hl
  refine lv_aload_n hx hb dX12_rule_0 rfl (lv_at hl 0 rfl) ?_
  refine lv_iconst (v := 0) hx hb dX12_rule_1 (by decide) ?_
  have c_1 : S 0 = .inr (12, [.int 0, .ref (ad 1), .ref (ad 2), .ref (ad 3), .ref (ad 4), .ref (ad 5), .int 0, .int 0, .int 0, .int 0, .int 0, .long 0, .int 0, .int 0, .int 0, .int (-1), .ref (ad 6), .ref (ad 7), .ref (ad 8), .ref (ad 9), .ref (ad 10), .ref (ad 11), .ref (ad 12), .ref (ad 13), .ref (ad 14), .ref (ad 15), .int 0, .int 0, .ref (ad 16), .int 0, .int 0, .int 0, .int 0, .int 0, .ref (ad 17), .ref (ad 18), .int 0, .ref (ad 19)]) := (hX 0 (by decide))
  refine xputi E hs hQ 0 (by decide) c_1 rfl 0 (by decide) q1468 rfl rfl (Nat.le_of_ble_eq_true rfl) dX12_rule_2 (fun H locs S2 e2 hQ => ?_)
  have hX : ∀ i, i < 20 → S2 i = M0 g ad i := same_up hX e2 rfl
  refine lv_aload_n hx hb dX12_rule_5 rfl (lv_at hl 0 rfl) ?_
  refine lv_iload_n hx hb dX12_rule_6 rfl (lv_at hl 1 rfl) ?_
  have c_3 : S2 0 = .inr (12, [.int 0, .ref (ad 1), .ref (ad 2), .ref (ad 3), .ref (ad 4), .ref (ad 5), .int 0, .int 0, .int 0, .int 0, .int 0, .long 0, .int 0, .int 0, .int 0, .int (-1), .ref (ad 6), .ref (ad 7), .ref (ad 8), .ref (ad 9), .ref (ad 10), .ref (ad 11), .ref (ad 12), .ref (ad 13), .ref (ad 14), .ref (ad 15), .int 0, .int 0, .ref (ad 16), .int 0, .int 0, .int 0, .int 0, .int 0, .ref (ad 17), .ref (ad 18), .int 0, .ref (ad 19)]) := (hX 0 (by decide))
  refine xcVi E hs hQ hml hl.1 0 (fX12_isRule l g ad hD S2 hX a1) mX12_isRule q1774 (by decide) c_3 rfl rfl ⟨by decide, by decide⟩ ⟨by decide, by decide⟩ (by decide) rfl dX12_rule_7 (fun r4 S4 H locs hp4 hQ _ => ?_)
  obtain ⟨rfl, rfl⟩ := hp4
  refine lv_if_eq (tgt := 38) hx hb dX12_rule_10 (by decide) (fun k_5 => ?_) (fun k_5 => absurd k_5 (by decide))
  refine lv_bipush (v := (-2)) hx hb dX12_rule_38 (by decide) ?_
  exact xri E hr hlk hQ (rfl) dX12_rule_40
set_option maxHeartbeats 4000000 in
set_option maxRecDepth 100000 in
theorem fX12_sitter (l : Launch) (g : GG) (ad : Nat → Nat) (hD : Dj ad 20) (S : SS) (hX : ∀ i, i < 20 → S i = M0 g ad i) (a1 : Int32) : Met l yX12_sitter (wG (.code yX12_sitter cX12_sitter 2 (some .int))) (Rm 2) (XPre g ad 20 S [.ref (ad 0), .int a1]) (va_Qi (fun r _ => r = (-2)) (QB g ad 20) (FA ad 20)) 0 0 (FA ad 20) := by
  refine xmet cX12_sitter "EbbWreckModel" (by decide) rfl (Nat.le_of_ble_eq_true rfl) (fun p e s m below meth c E hr hlk hml hQ ls hl => ?_)
  have hx := E.1
  have hb := E.2.1
  have hs : Sp ad 20 (FA ad 20) := Sp.fa hD
  have hl : lv_has ls 2 [(0, .ref (ad 0)), (1, .int a1)] := hl
  refine lv_aload_n hx hb dX12_sitter_0 rfl (lv_at hl 0 rfl) ?_
  refine lv_iconst (v := 0) hx hb dX12_sitter_1 (by decide) ?_
  have c_1 : S 0 = .inr (12, [.int 0, .ref (ad 1), .ref (ad 2), .ref (ad 3), .ref (ad 4), .ref (ad 5), .int 0, .int 0, .int 0, .int 0, .int 0, .long 0, .int 0, .int 0, .int 0, .int (-1), .ref (ad 6), .ref (ad 7), .ref (ad 8), .ref (ad 9), .ref (ad 10), .ref (ad 11), .ref (ad 12), .ref (ad 13), .ref (ad 14), .ref (ad 15), .int 0, .int 0, .ref (ad 16), .int 0, .int 0, .int 0, .int 0, .int 0, .ref (ad 17), .ref (ad 18), .int 0, .ref (ad 19)]) := (hX 0 (by decide))
  refine xputi E hs hQ 0 (by decide) c_1 rfl 0 (by decide) q1468 rfl rfl (Nat.le_of_ble_eq_true rfl) dX12_sitter_2 (fun H locs S2 e2 hQ => ?_)
  have hX : ∀ i, i < 20 → S2 i = M0 g ad i := same_up hX e2 rfl
  refine lv_aload_n hx hb dX12_sitter_5 rfl (lv_at hl 0 rfl) ?_
  refine lv_iload_n hx hb dX12_sitter_6 rfl (lv_at hl 1 rfl) ?_
  have c_3 : S2 0 = .inr (12, [.int 0, .ref (ad 1), .ref (ad 2), .ref (ad 3), .ref (ad 4), .ref (ad 5), .int 0, .int 0, .int 0, .int 0, .int 0, .long 0, .int 0, .int 0, .int 0, .int (-1), .ref (ad 6), .ref (ad 7), .ref (ad 8), .ref (ad 9), .ref (ad 10), .ref (ad 11), .ref (ad 12), .ref (ad 13), .ref (ad 14), .ref (ad 15), .int 0, .int 0, .ref (ad 16), .int 0, .int 0, .int 0, .int 0, .int 0, .ref (ad 17), .ref (ad 18), .int 0, .ref (ad 19)]) := (hX 0 (by decide))
  refine xcVi E hs hQ hml hl.1 0 (fX12_isSitter l g ad hD S2 hX a1) mX12_isSitter q1816 (by decide) c_3 rfl rfl ⟨by decide, by decide⟩ ⟨by decide, by decide⟩ (by decide) rfl dX12_sitter_7 (fun r4 S4 H locs hp4 hQ _ => ?_)
  obtain ⟨rfl, rfl⟩ := hp4
  refine lv_if_ne (tgt := 16) hx hb dX12_sitter_10 (by decide) (fun k_5 => absurd k_5 (by decide)) (fun k_5 => ?_)
  refine lv_bipush (v := (-2)) hx hb dX12_sitter_13 (by decide) ?_
  exact xri E hr hlk hQ (rfl) dX12_sitter_15
set_option maxHeartbeats 4000000 in
set_option maxRecDepth 100000 in
theorem fX12_phase (l : Launch) (g : GG) (ad : Nat → Nat) (hD : Dj ad 20) (S : SS) (hX : ∀ i, i < 20 → S i = M0 g ad i) (a1 : Int32) : Met l yX12_phase (wG (.code yX12_phase cX12_phase 2 (some .int))) (Rm 1) (XPre g ad 20 S [.ref (ad 0), .int a1]) (va_Qi (fun r _ => r = (-2)) (QB g ad 20) (FA ad 20)) 0 0 (FA ad 20) := by
  refine xmet cX12_phase "EbbWreckModel" (by decide) rfl (Nat.le_of_ble_eq_true rfl) (fun p e s m below meth c E hr hlk hml hQ ls hl => ?_)
  have hx := E.1
  have hb := E.2.1
  have hs : Sp ad 20 (FA ad 20) := Sp.fa hD
  have hl : lv_has ls 2 [(0, .ref (ad 0)), (1, .int a1)] := hl
  refine lv_aload_n hx hb dX12_phase_0 rfl (lv_at hl 0 rfl) ?_
  refine lv_iconst (v := 0) hx hb dX12_phase_1 (by decide) ?_
  have c_1 : S 0 = .inr (12, [.int 0, .ref (ad 1), .ref (ad 2), .ref (ad 3), .ref (ad 4), .ref (ad 5), .int 0, .int 0, .int 0, .int 0, .int 0, .long 0, .int 0, .int 0, .int 0, .int (-1), .ref (ad 6), .ref (ad 7), .ref (ad 8), .ref (ad 9), .ref (ad 10), .ref (ad 11), .ref (ad 12), .ref (ad 13), .ref (ad 14), .ref (ad 15), .int 0, .int 0, .ref (ad 16), .int 0, .int 0, .int 0, .int 0, .int 0, .ref (ad 17), .ref (ad 18), .int 0, .ref (ad 19)]) := (hX 0 (by decide))
  refine xputi E hs hQ 0 (by decide) c_1 rfl 0 (by decide) q1468 rfl rfl (Nat.le_of_ble_eq_true rfl) dX12_phase_2 (fun H locs S2 e2 hQ => ?_)
  have hX : ∀ i, i < 20 → S2 i = M0 g ad i := same_up hX e2 rfl
  refine lv_aload_n hx hb dX12_phase_5 rfl (lv_at hl 0 rfl) ?_
  have c_3 : S2 0 = .inr (12, [.int 0, .ref (ad 1), .ref (ad 2), .ref (ad 3), .ref (ad 4), .ref (ad 5), .int 0, .int 0, .int 0, .int 0, .int 0, .long 0, .int 0, .int 0, .int 0, .int (-1), .ref (ad 6), .ref (ad 7), .ref (ad 8), .ref (ad 9), .ref (ad 10), .ref (ad 11), .ref (ad 12), .ref (ad 13), .ref (ad 14), .ref (ad 15), .int 0, .int 0, .ref (ad 16), .int 0, .int 0, .int 0, .int 0, .int 0, .ref (ad 17), .ref (ad 18), .int 0, .ref (ad 19)]) := (hX 0 (by decide))
  refine xcVi E hs hQ hml hl.1 0 (fX12_isShore l g ad hD S2 hX ) mX12_isShore q1782 (by decide) c_3 rfl rfl ⟨by decide, by decide⟩ ⟨by decide, by decide⟩ (by decide) rfl dX12_phase_6 (fun r4 S4 H locs hp4 hQ _ => ?_)
  obtain ⟨rfl, rfl⟩ := hp4
  refine lv_if_eq (tgt := 32) hx hb dX12_phase_9 (by decide) (fun k_5 => ?_) (fun k_5 => absurd k_5 (by decide))
  refine lv_bipush (v := (-2)) hx hb dX12_phase_32 (by decide) ?_
  exact xri E hr hlk hQ (rfl) dX12_phase_34
set_option maxHeartbeats 4000000 in
set_option maxRecDepth 100000 in
theorem fX12_next_ (l : Launch) (g : GG) (ad : Nat → Nat) (hD : Dj ad 20) (S : SS) (hX : ∀ i, i < 20 → S i = M0 g ad i) (a1 : Int32) (a2 : Int32) : Met l yX12_next_ (wG (.code yX12_next_ cX12_next_ 4 (some .int))) (Rm 1) (XPre g ad 20 S [.ref (ad 0), .int a1, .int a2]) (va_Qi (fun r _ => r = (-2)) (QB g ad 20) (FA ad 20)) 0 0 (FA ad 20) := by
  refine xmet cX12_next_ "EbbWreckModel" (by decide) rfl (Nat.le_of_ble_eq_true rfl) (fun p e s m below meth c E hr hlk hml hQ ls hl => ?_)
  have hx := E.1
  have hb := E.2.1
  have hs : Sp ad 20 (FA ad 20) := Sp.fa hD
  have hl : lv_has ls 4 [(0, .ref (ad 0)), (1, .int a1), (2, .int a2)] := hl
  refine lv_aload_n hx hb dX12_next__0 rfl (lv_at hl 0 rfl) ?_
  refine lv_iconst (v := 0) hx hb dX12_next__1 (by decide) ?_
  have c_1 : S 0 = .inr (12, [.int 0, .ref (ad 1), .ref (ad 2), .ref (ad 3), .ref (ad 4), .ref (ad 5), .int 0, .int 0, .int 0, .int 0, .int 0, .long 0, .int 0, .int 0, .int 0, .int (-1), .ref (ad 6), .ref (ad 7), .ref (ad 8), .ref (ad 9), .ref (ad 10), .ref (ad 11), .ref (ad 12), .ref (ad 13), .ref (ad 14), .ref (ad 15), .int 0, .int 0, .ref (ad 16), .int 0, .int 0, .int 0, .int 0, .int 0, .ref (ad 17), .ref (ad 18), .int 0, .ref (ad 19)]) := (hX 0 (by decide))
  refine xputi E hs hQ 0 (by decide) c_1 rfl 0 (by decide) q1468 rfl rfl (Nat.le_of_ble_eq_true rfl) dX12_next__2 (fun H locs S2 e2 hQ => ?_)
  have hX : ∀ i, i < 20 → S2 i = M0 g ad i := same_up hX e2 rfl
  refine lv_aload_n hx hb dX12_next__5 rfl (lv_at hl 0 rfl) ?_
  have c_3 : S2 0 = .inr (12, [.int 0, .ref (ad 1), .ref (ad 2), .ref (ad 3), .ref (ad 4), .ref (ad 5), .int 0, .int 0, .int 0, .int 0, .int 0, .long 0, .int 0, .int 0, .int 0, .int (-1), .ref (ad 6), .ref (ad 7), .ref (ad 8), .ref (ad 9), .ref (ad 10), .ref (ad 11), .ref (ad 12), .ref (ad 13), .ref (ad 14), .ref (ad 15), .int 0, .int 0, .ref (ad 16), .int 0, .int 0, .int 0, .int 0, .int 0, .ref (ad 17), .ref (ad 18), .int 0, .ref (ad 19)]) := (hX 0 (by decide))
  refine xcVi E hs hQ hml hl.1 0 (fX12_isShore l g ad hD S2 hX ) mX12_isShore q1782 (by decide) c_3 rfl rfl ⟨by decide, by decide⟩ ⟨by decide, by decide⟩ (by decide) rfl dX12_next__6 (fun r4 S4 H locs hp4 hQ _ => ?_)
  obtain ⟨rfl, rfl⟩ := hp4
  refine lv_if_eq (tgt := 36) hx hb dX12_next__9 (by decide) (fun k_5 => ?_) (fun k_5 => absurd k_5 (by decide))
  refine lv_bipush (v := (-2)) hx hb dX12_next__36 (by decide) ?_
  exact xri E hr hlk hQ (rfl) dX12_next__38
set_option maxHeartbeats 4000000 in
set_option maxRecDepth 100000 in
theorem fX12_lasts (l : Launch) (g : GG) (ad : Nat → Nat) (hD : Dj ad 20) (S : SS) (hX : ∀ i, i < 20 → S i = M0 g ad i) (a1 : Int32) : Met l yX12_lasts (wG (.code yX12_lasts cX12_lasts 3 (some .int))) (Rm 1) (XPre g ad 20 S [.ref (ad 0), .int a1]) (va_Qi (fun r _ => r = (-2)) (QB g ad 20) (FA ad 20)) 0 0 (FA ad 20) := by
  refine xmet cX12_lasts "EbbWreckModel" (by decide) rfl (Nat.le_of_ble_eq_true rfl) (fun p e s m below meth c E hr hlk hml hQ ls hl => ?_)
  have hx := E.1
  have hb := E.2.1
  have hs : Sp ad 20 (FA ad 20) := Sp.fa hD
  have hl : lv_has ls 3 [(0, .ref (ad 0)), (1, .int a1)] := hl
  refine lv_aload_n hx hb dX12_lasts_0 rfl (lv_at hl 0 rfl) ?_
  refine lv_iconst (v := 0) hx hb dX12_lasts_1 (by decide) ?_
  have c_1 : S 0 = .inr (12, [.int 0, .ref (ad 1), .ref (ad 2), .ref (ad 3), .ref (ad 4), .ref (ad 5), .int 0, .int 0, .int 0, .int 0, .int 0, .long 0, .int 0, .int 0, .int 0, .int (-1), .ref (ad 6), .ref (ad 7), .ref (ad 8), .ref (ad 9), .ref (ad 10), .ref (ad 11), .ref (ad 12), .ref (ad 13), .ref (ad 14), .ref (ad 15), .int 0, .int 0, .ref (ad 16), .int 0, .int 0, .int 0, .int 0, .int 0, .ref (ad 17), .ref (ad 18), .int 0, .ref (ad 19)]) := (hX 0 (by decide))
  refine xputi E hs hQ 0 (by decide) c_1 rfl 0 (by decide) q1468 rfl rfl (Nat.le_of_ble_eq_true rfl) dX12_lasts_2 (fun H locs S2 e2 hQ => ?_)
  have hX : ∀ i, i < 20 → S2 i = M0 g ad i := same_up hX e2 rfl
  refine lv_aload_n hx hb dX12_lasts_5 rfl (lv_at hl 0 rfl) ?_
  have c_3 : S2 0 = .inr (12, [.int 0, .ref (ad 1), .ref (ad 2), .ref (ad 3), .ref (ad 4), .ref (ad 5), .int 0, .int 0, .int 0, .int 0, .int 0, .long 0, .int 0, .int 0, .int 0, .int (-1), .ref (ad 6), .ref (ad 7), .ref (ad 8), .ref (ad 9), .ref (ad 10), .ref (ad 11), .ref (ad 12), .ref (ad 13), .ref (ad 14), .ref (ad 15), .int 0, .int 0, .ref (ad 16), .int 0, .int 0, .int 0, .int 0, .int 0, .ref (ad 17), .ref (ad 18), .int 0, .ref (ad 19)]) := (hX 0 (by decide))
  refine xcVi E hs hQ hml hl.1 0 (fX12_isShore l g ad hD S2 hX ) mX12_isShore q1782 (by decide) c_3 rfl rfl ⟨by decide, by decide⟩ ⟨by decide, by decide⟩ (by decide) rfl dX12_lasts_6 (fun r4 S4 H locs hp4 hQ _ => ?_)
  obtain ⟨rfl, rfl⟩ := hp4
  refine lv_if_eq (tgt := 24) hx hb dX12_lasts_9 (by decide) (fun k_5 => ?_) (fun k_5 => absurd k_5 (by decide))
  refine lv_bipush (v := (-2)) hx hb dX12_lasts_24 (by decide) ?_
  exact xri E hr hlk hQ (rfl) dX12_lasts_26
set_option maxHeartbeats 4000000 in
set_option maxRecDepth 100000 in
theorem fX12_slacks (l : Launch) (g : GG) (ad : Nat → Nat) (hD : Dj ad 20) (S : SS) (hX : ∀ i, i < 20 → S i = M0 g ad i) (a1 : Int32) : Met l yX12_slacks (wG (.code yX12_slacks cX12_slacks 4 (some .int))) (Rm 1) (XPre g ad 20 S [.ref (ad 0), .int a1]) (va_Qi (fun r _ => r = (-2)) (QB g ad 20) (FA ad 20)) 0 0 (FA ad 20) := by
  refine xmet cX12_slacks "EbbWreckModel" (by decide) rfl (Nat.le_of_ble_eq_true rfl) (fun p e s m below meth c E hr hlk hml hQ ls hl => ?_)
  have hx := E.1
  have hb := E.2.1
  have hs : Sp ad 20 (FA ad 20) := Sp.fa hD
  have hl : lv_has ls 4 [(0, .ref (ad 0)), (1, .int a1)] := hl
  refine lv_aload_n hx hb dX12_slacks_0 rfl (lv_at hl 0 rfl) ?_
  refine lv_iconst (v := 0) hx hb dX12_slacks_1 (by decide) ?_
  have c_1 : S 0 = .inr (12, [.int 0, .ref (ad 1), .ref (ad 2), .ref (ad 3), .ref (ad 4), .ref (ad 5), .int 0, .int 0, .int 0, .int 0, .int 0, .long 0, .int 0, .int 0, .int 0, .int (-1), .ref (ad 6), .ref (ad 7), .ref (ad 8), .ref (ad 9), .ref (ad 10), .ref (ad 11), .ref (ad 12), .ref (ad 13), .ref (ad 14), .ref (ad 15), .int 0, .int 0, .ref (ad 16), .int 0, .int 0, .int 0, .int 0, .int 0, .ref (ad 17), .ref (ad 18), .int 0, .ref (ad 19)]) := (hX 0 (by decide))
  refine xputi E hs hQ 0 (by decide) c_1 rfl 0 (by decide) q1468 rfl rfl (Nat.le_of_ble_eq_true rfl) dX12_slacks_2 (fun H locs S2 e2 hQ => ?_)
  have hX : ∀ i, i < 20 → S2 i = M0 g ad i := same_up hX e2 rfl
  refine lv_aload_n hx hb dX12_slacks_5 rfl (lv_at hl 0 rfl) ?_
  have c_3 : S2 0 = .inr (12, [.int 0, .ref (ad 1), .ref (ad 2), .ref (ad 3), .ref (ad 4), .ref (ad 5), .int 0, .int 0, .int 0, .int 0, .int 0, .long 0, .int 0, .int 0, .int 0, .int (-1), .ref (ad 6), .ref (ad 7), .ref (ad 8), .ref (ad 9), .ref (ad 10), .ref (ad 11), .ref (ad 12), .ref (ad 13), .ref (ad 14), .ref (ad 15), .int 0, .int 0, .ref (ad 16), .int 0, .int 0, .int 0, .int 0, .int 0, .ref (ad 17), .ref (ad 18), .int 0, .ref (ad 19)]) := (hX 0 (by decide))
  refine xcVi E hs hQ hml hl.1 0 (fX12_isShore l g ad hD S2 hX ) mX12_isShore q1782 (by decide) c_3 rfl rfl ⟨by decide, by decide⟩ ⟨by decide, by decide⟩ (by decide) rfl dX12_slacks_6 (fun r4 S4 H locs hp4 hQ _ => ?_)
  obtain ⟨rfl, rfl⟩ := hp4
  refine lv_if_eq (tgt := 24) hx hb dX12_slacks_9 (by decide) (fun k_5 => ?_) (fun k_5 => absurd k_5 (by decide))
  refine lv_bipush (v := (-2)) hx hb dX12_slacks_24 (by decide) ?_
  exact xri E hr hlk hQ (rfl) dX12_slacks_26
set_option maxHeartbeats 4000000 in
set_option maxRecDepth 100000 in
theorem fX12_drifts (l : Launch) (g : GG) (ad : Nat → Nat) (hD : Dj ad 20) (S : SS) (hX : ∀ i, i < 20 → S i = M0 g ad i) (a1 : Int32) (a2 : Int32) : Met l yX12_drifts (wG (.code yX12_drifts cX12_drifts 3 (some .int))) (Rm 2) (XPre g ad 20 S [.ref (ad 0), .int a1, .int a2]) (va_Qi (fun r _ => r = (-2)) (QB g ad 20) (FA ad 20)) 0 0 (FA ad 20) := by
  refine xmet cX12_drifts "EbbWreckModel" (by decide) rfl (Nat.le_of_ble_eq_true rfl) (fun p e s m below meth c E hr hlk hml hQ ls hl => ?_)
  have hx := E.1
  have hb := E.2.1
  have hs : Sp ad 20 (FA ad 20) := Sp.fa hD
  have hl : lv_has ls 3 [(0, .ref (ad 0)), (1, .int a1), (2, .int a2)] := hl
  refine lv_aload_n hx hb dX12_drifts_0 rfl (lv_at hl 0 rfl) ?_
  refine lv_iconst (v := 0) hx hb dX12_drifts_1 (by decide) ?_
  have c_1 : S 0 = .inr (12, [.int 0, .ref (ad 1), .ref (ad 2), .ref (ad 3), .ref (ad 4), .ref (ad 5), .int 0, .int 0, .int 0, .int 0, .int 0, .long 0, .int 0, .int 0, .int 0, .int (-1), .ref (ad 6), .ref (ad 7), .ref (ad 8), .ref (ad 9), .ref (ad 10), .ref (ad 11), .ref (ad 12), .ref (ad 13), .ref (ad 14), .ref (ad 15), .int 0, .int 0, .ref (ad 16), .int 0, .int 0, .int 0, .int 0, .int 0, .ref (ad 17), .ref (ad 18), .int 0, .ref (ad 19)]) := (hX 0 (by decide))
  refine xputi E hs hQ 0 (by decide) c_1 rfl 0 (by decide) q1468 rfl rfl (Nat.le_of_ble_eq_true rfl) dX12_drifts_2 (fun H locs S2 e2 hQ => ?_)
  have hX : ∀ i, i < 20 → S2 i = M0 g ad i := same_up hX e2 rfl
  refine lv_aload_n hx hb dX12_drifts_5 rfl (lv_at hl 0 rfl) ?_
  refine lv_iload_n hx hb dX12_drifts_6 rfl (lv_at hl 1 rfl) ?_
  refine lv_i2l hx hb dX12_drifts_7 rfl ?_
  have c_3 : S2 0 = .inr (12, [.int 0, .ref (ad 1), .ref (ad 2), .ref (ad 3), .ref (ad 4), .ref (ad 5), .int 0, .int 0, .int 0, .int 0, .int 0, .long 0, .int 0, .int 0, .int 0, .int (-1), .ref (ad 6), .ref (ad 7), .ref (ad 8), .ref (ad 9), .ref (ad 10), .ref (ad 11), .ref (ad 12), .ref (ad 13), .ref (ad 14), .ref (ad 15), .int 0, .int 0, .ref (ad 16), .int 0, .int 0, .int 0, .int 0, .int 0, .ref (ad 17), .ref (ad 18), .int 0, .ref (ad 19)]) := (hX 0 (by decide))
  refine xcVi E hs hQ hml hl.1 0 (fX12_isCell l g ad hD S2 hX a1.toInt64) mX12_isCell q1750 (by decide) c_3 rfl rfl ⟨by decide, by decide⟩ ⟨by decide, by decide⟩ (by decide) rfl dX12_drifts_8 (fun r4 S4 H locs hp4 hQ _ => ?_)
  obtain ⟨rfl, rfl⟩ := hp4
  refine lv_if_eq (tgt := 35) hx hb dX12_drifts_11 (by decide) (fun k_5 => ?_) (fun k_5 => absurd k_5 (by decide))
  refine lv_bipush (v := (-2)) hx hb dX12_drifts_35 (by decide) ?_
  exact xri E hr hlk hQ (rfl) dX12_drifts_37
set_option maxHeartbeats 4000000 in
set_option maxRecDepth 100000 in
theorem fX12_at (l : Launch) (g : GG) (ad : Nat → Nat) (hD : Dj ad 20) (S : SS) (hX : ∀ i, i < 20 → S i = M0 g ad i) (a1 : Int32) (a2 : Int32) : Met l yX12_at (wG (.code yX12_at cX12_at 3 (some .int))) (Rm 2) (XPre g ad 20 S [.ref (ad 0), .int a1, .int a2]) (va_Qi (fun r _ => r = (-2)) (QB g ad 20) (FA ad 20)) 0 0 (FA ad 20) := by
  refine xmet cX12_at "EbbWreckModel" (by decide) rfl (Nat.le_of_ble_eq_true rfl) (fun p e s m below meth c E hr hlk hml hQ ls hl => ?_)
  have hx := E.1
  have hb := E.2.1
  have hs : Sp ad 20 (FA ad 20) := Sp.fa hD
  have hl : lv_has ls 3 [(0, .ref (ad 0)), (1, .int a1), (2, .int a2)] := hl
  refine lv_aload_n hx hb dX12_at_0 rfl (lv_at hl 0 rfl) ?_
  refine lv_iconst (v := 0) hx hb dX12_at_1 (by decide) ?_
  have c_1 : S 0 = .inr (12, [.int 0, .ref (ad 1), .ref (ad 2), .ref (ad 3), .ref (ad 4), .ref (ad 5), .int 0, .int 0, .int 0, .int 0, .int 0, .long 0, .int 0, .int 0, .int 0, .int (-1), .ref (ad 6), .ref (ad 7), .ref (ad 8), .ref (ad 9), .ref (ad 10), .ref (ad 11), .ref (ad 12), .ref (ad 13), .ref (ad 14), .ref (ad 15), .int 0, .int 0, .ref (ad 16), .int 0, .int 0, .int 0, .int 0, .int 0, .ref (ad 17), .ref (ad 18), .int 0, .ref (ad 19)]) := (hX 0 (by decide))
  refine xputi E hs hQ 0 (by decide) c_1 rfl 0 (by decide) q1468 rfl rfl (Nat.le_of_ble_eq_true rfl) dX12_at_2 (fun H locs S2 e2 hQ => ?_)
  have hX : ∀ i, i < 20 → S2 i = M0 g ad i := same_up hX e2 rfl
  refine lv_aload_n hx hb dX12_at_5 rfl (lv_at hl 0 rfl) ?_
  refine lv_iload_n hx hb dX12_at_6 rfl (lv_at hl 1 rfl) ?_
  have c_3 : S2 0 = .inr (12, [.int 0, .ref (ad 1), .ref (ad 2), .ref (ad 3), .ref (ad 4), .ref (ad 5), .int 0, .int 0, .int 0, .int 0, .int 0, .long 0, .int 0, .int 0, .int 0, .int (-1), .ref (ad 6), .ref (ad 7), .ref (ad 8), .ref (ad 9), .ref (ad 10), .ref (ad 11), .ref (ad 12), .ref (ad 13), .ref (ad 14), .ref (ad 15), .int 0, .int 0, .ref (ad 16), .int 0, .int 0, .int 0, .int 0, .int 0, .ref (ad 17), .ref (ad 18), .int 0, .ref (ad 19)]) := (hX 0 (by decide))
  refine xcVi E hs hQ hml hl.1 0 (fX12_isThing l g ad hD S2 hX a1) mX12_isThing q1766 (by decide) c_3 rfl rfl ⟨by decide, by decide⟩ ⟨by decide, by decide⟩ (by decide) rfl dX12_at_7 (fun r4 S4 H locs hp4 hQ _ => ?_)
  obtain ⟨rfl, rfl⟩ := hp4
  refine lv_if_eq (tgt := 25) hx hb dX12_at_10 (by decide) (fun k_5 => ?_) (fun k_5 => absurd k_5 (by decide))
  refine lv_bipush (v := (-2)) hx hb dX12_at_25 (by decide) ?_
  exact xri E hr hlk hQ (rfl) dX12_at_27
set_option maxHeartbeats 4000000 in
set_option maxRecDepth 100000 in
theorem fX12_comes (l : Launch) (g : GG) (ad : Nat → Nat) (hD : Dj ad 20) (S : SS) (hX : ∀ i, i < 20 → S i = M0 g ad i) (a1 : Int32) : Met l yX12_comes (wG (.code yX12_comes cX12_comes 2 (some .int))) (Rm 2) (XPre g ad 20 S [.ref (ad 0), .int a1]) (va_Qi (fun r _ => r = (-2)) (QB g ad 20) (FA ad 20)) 0 0 (FA ad 20) := by
  refine xmet cX12_comes "EbbWreckModel" (by decide) rfl (Nat.le_of_ble_eq_true rfl) (fun p e s m below meth c E hr hlk hml hQ ls hl => ?_)
  have hx := E.1
  have hb := E.2.1
  have hs : Sp ad 20 (FA ad 20) := Sp.fa hD
  have hl : lv_has ls 2 [(0, .ref (ad 0)), (1, .int a1)] := hl
  refine lv_aload_n hx hb dX12_comes_0 rfl (lv_at hl 0 rfl) ?_
  refine lv_iconst (v := 0) hx hb dX12_comes_1 (by decide) ?_
  have c_1 : S 0 = .inr (12, [.int 0, .ref (ad 1), .ref (ad 2), .ref (ad 3), .ref (ad 4), .ref (ad 5), .int 0, .int 0, .int 0, .int 0, .int 0, .long 0, .int 0, .int 0, .int 0, .int (-1), .ref (ad 6), .ref (ad 7), .ref (ad 8), .ref (ad 9), .ref (ad 10), .ref (ad 11), .ref (ad 12), .ref (ad 13), .ref (ad 14), .ref (ad 15), .int 0, .int 0, .ref (ad 16), .int 0, .int 0, .int 0, .int 0, .int 0, .ref (ad 17), .ref (ad 18), .int 0, .ref (ad 19)]) := (hX 0 (by decide))
  refine xputi E hs hQ 0 (by decide) c_1 rfl 0 (by decide) q1468 rfl rfl (Nat.le_of_ble_eq_true rfl) dX12_comes_2 (fun H locs S2 e2 hQ => ?_)
  have hX : ∀ i, i < 20 → S2 i = M0 g ad i := same_up hX e2 rfl
  refine lv_aload_n hx hb dX12_comes_5 rfl (lv_at hl 0 rfl) ?_
  refine lv_iload_n hx hb dX12_comes_6 rfl (lv_at hl 1 rfl) ?_
  have c_3 : S2 0 = .inr (12, [.int 0, .ref (ad 1), .ref (ad 2), .ref (ad 3), .ref (ad 4), .ref (ad 5), .int 0, .int 0, .int 0, .int 0, .int 0, .long 0, .int 0, .int 0, .int 0, .int (-1), .ref (ad 6), .ref (ad 7), .ref (ad 8), .ref (ad 9), .ref (ad 10), .ref (ad 11), .ref (ad 12), .ref (ad 13), .ref (ad 14), .ref (ad 15), .int 0, .int 0, .ref (ad 16), .int 0, .int 0, .int 0, .int 0, .int 0, .ref (ad 17), .ref (ad 18), .int 0, .ref (ad 19)]) := (hX 0 (by decide))
  refine xcVi E hs hQ hml hl.1 0 (fX12_isThing l g ad hD S2 hX a1) mX12_isThing q1766 (by decide) c_3 rfl rfl ⟨by decide, by decide⟩ ⟨by decide, by decide⟩ (by decide) rfl dX12_comes_7 (fun r4 S4 H locs hp4 hQ _ => ?_)
  obtain ⟨rfl, rfl⟩ := hp4
  refine lv_if_ne (tgt := 16) hx hb dX12_comes_10 (by decide) (fun k_5 => absurd k_5 (by decide)) (fun k_5 => ?_)
  refine lv_bipush (v := (-2)) hx hb dX12_comes_13 (by decide) ?_
  exact xri E hr hlk hQ (rfl) dX12_comes_15
set_option maxHeartbeats 4000000 in
set_option maxRecDepth 100000 in
theorem fX12_beach (l : Launch) (g : GG) (ad : Nat → Nat) (hD : Dj ad 20) (S : SS) (hX : ∀ i, i < 20 → S i = M0 g ad i) (a1 : Int32) : Met l yX12_beach (wG (.code yX12_beach cX12_beach 2 (some .int))) (Rm 2) (XPre g ad 20 S [.ref (ad 0), .int a1]) (va_Qi (fun r _ => r = (-2)) (QB g ad 20) (FA ad 20)) 0 0 (FA ad 20) := by
  refine xmet cX12_beach "EbbWreckModel" (by decide) rfl (Nat.le_of_ble_eq_true rfl) (fun p e s m below meth c E hr hlk hml hQ ls hl => ?_)
  have hx := E.1
  have hb := E.2.1
  have hs : Sp ad 20 (FA ad 20) := Sp.fa hD
  have hl : lv_has ls 2 [(0, .ref (ad 0)), (1, .int a1)] := hl
  refine lv_aload_n hx hb dX12_beach_0 rfl (lv_at hl 0 rfl) ?_
  refine lv_iconst (v := 0) hx hb dX12_beach_1 (by decide) ?_
  have c_1 : S 0 = .inr (12, [.int 0, .ref (ad 1), .ref (ad 2), .ref (ad 3), .ref (ad 4), .ref (ad 5), .int 0, .int 0, .int 0, .int 0, .int 0, .long 0, .int 0, .int 0, .int 0, .int (-1), .ref (ad 6), .ref (ad 7), .ref (ad 8), .ref (ad 9), .ref (ad 10), .ref (ad 11), .ref (ad 12), .ref (ad 13), .ref (ad 14), .ref (ad 15), .int 0, .int 0, .ref (ad 16), .int 0, .int 0, .int 0, .int 0, .int 0, .ref (ad 17), .ref (ad 18), .int 0, .ref (ad 19)]) := (hX 0 (by decide))
  refine xputi E hs hQ 0 (by decide) c_1 rfl 0 (by decide) q1468 rfl rfl (Nat.le_of_ble_eq_true rfl) dX12_beach_2 (fun H locs S2 e2 hQ => ?_)
  have hX : ∀ i, i < 20 → S2 i = M0 g ad i := same_up hX e2 rfl
  refine lv_aload_n hx hb dX12_beach_5 rfl (lv_at hl 0 rfl) ?_
  refine lv_iload_n hx hb dX12_beach_6 rfl (lv_at hl 1 rfl) ?_
  have c_3 : S2 0 = .inr (12, [.int 0, .ref (ad 1), .ref (ad 2), .ref (ad 3), .ref (ad 4), .ref (ad 5), .int 0, .int 0, .int 0, .int 0, .int 0, .long 0, .int 0, .int 0, .int 0, .int (-1), .ref (ad 6), .ref (ad 7), .ref (ad 8), .ref (ad 9), .ref (ad 10), .ref (ad 11), .ref (ad 12), .ref (ad 13), .ref (ad 14), .ref (ad 15), .int 0, .int 0, .ref (ad 16), .int 0, .int 0, .int 0, .int 0, .int 0, .ref (ad 17), .ref (ad 18), .int 0, .ref (ad 19)]) := (hX 0 (by decide))
  refine xcVi E hs hQ hml hl.1 0 (fX12_isThing l g ad hD S2 hX a1) mX12_isThing q1766 (by decide) c_3 rfl rfl ⟨by decide, by decide⟩ ⟨by decide, by decide⟩ (by decide) rfl dX12_beach_7 (fun r4 S4 H locs hp4 hQ _ => ?_)
  obtain ⟨rfl, rfl⟩ := hp4
  refine lv_if_ne (tgt := 16) hx hb dX12_beach_10 (by decide) (fun k_5 => absurd k_5 (by decide)) (fun k_5 => ?_)
  refine lv_bipush (v := (-2)) hx hb dX12_beach_13 (by decide) ?_
  exact xri E hr hlk hQ (rfl) dX12_beach_15
set_option maxHeartbeats 4000000 in
set_option maxRecDepth 100000 in
theorem fX12_whose (l : Launch) (g : GG) (ad : Nat → Nat) (hD : Dj ad 20) (S : SS) (hX : ∀ i, i < 20 → S i = M0 g ad i) (a1 : Int32) : Met l yX12_whose (wG (.code yX12_whose cX12_whose 2 (some .int))) (Rm 2) (XPre g ad 20 S [.ref (ad 0), .int a1]) (va_Qi (fun r _ => r = (-2)) (QB g ad 20) (FA ad 20)) 0 0 (FA ad 20) := by
  refine xmet cX12_whose "EbbWreckModel" (by decide) rfl (Nat.le_of_ble_eq_true rfl) (fun p e s m below meth c E hr hlk hml hQ ls hl => ?_)
  have hx := E.1
  have hb := E.2.1
  have hs : Sp ad 20 (FA ad 20) := Sp.fa hD
  have hl : lv_has ls 2 [(0, .ref (ad 0)), (1, .int a1)] := hl
  refine lv_aload_n hx hb dX12_whose_0 rfl (lv_at hl 0 rfl) ?_
  refine lv_iconst (v := 0) hx hb dX12_whose_1 (by decide) ?_
  have c_1 : S 0 = .inr (12, [.int 0, .ref (ad 1), .ref (ad 2), .ref (ad 3), .ref (ad 4), .ref (ad 5), .int 0, .int 0, .int 0, .int 0, .int 0, .long 0, .int 0, .int 0, .int 0, .int (-1), .ref (ad 6), .ref (ad 7), .ref (ad 8), .ref (ad 9), .ref (ad 10), .ref (ad 11), .ref (ad 12), .ref (ad 13), .ref (ad 14), .ref (ad 15), .int 0, .int 0, .ref (ad 16), .int 0, .int 0, .int 0, .int 0, .int 0, .ref (ad 17), .ref (ad 18), .int 0, .ref (ad 19)]) := (hX 0 (by decide))
  refine xputi E hs hQ 0 (by decide) c_1 rfl 0 (by decide) q1468 rfl rfl (Nat.le_of_ble_eq_true rfl) dX12_whose_2 (fun H locs S2 e2 hQ => ?_)
  have hX : ∀ i, i < 20 → S2 i = M0 g ad i := same_up hX e2 rfl
  refine lv_aload_n hx hb dX12_whose_5 rfl (lv_at hl 0 rfl) ?_
  refine lv_iload_n hx hb dX12_whose_6 rfl (lv_at hl 1 rfl) ?_
  have c_3 : S2 0 = .inr (12, [.int 0, .ref (ad 1), .ref (ad 2), .ref (ad 3), .ref (ad 4), .ref (ad 5), .int 0, .int 0, .int 0, .int 0, .int 0, .long 0, .int 0, .int 0, .int 0, .int (-1), .ref (ad 6), .ref (ad 7), .ref (ad 8), .ref (ad 9), .ref (ad 10), .ref (ad 11), .ref (ad 12), .ref (ad 13), .ref (ad 14), .ref (ad 15), .int 0, .int 0, .ref (ad 16), .int 0, .int 0, .int 0, .int 0, .int 0, .ref (ad 17), .ref (ad 18), .int 0, .ref (ad 19)]) := (hX 0 (by decide))
  refine xcVi E hs hQ hml hl.1 0 (fX12_isThing l g ad hD S2 hX a1) mX12_isThing q1766 (by decide) c_3 rfl rfl ⟨by decide, by decide⟩ ⟨by decide, by decide⟩ (by decide) rfl dX12_whose_7 (fun r4 S4 H locs hp4 hQ _ => ?_)
  obtain ⟨rfl, rfl⟩ := hp4
  refine lv_if_ne (tgt := 16) hx hb dX12_whose_10 (by decide) (fun k_5 => absurd k_5 (by decide)) (fun k_5 => ?_)
  refine lv_bipush (v := (-2)) hx hb dX12_whose_13 (by decide) ?_
  exact xri E hr hlk hQ (rfl) dX12_whose_15
set_option maxHeartbeats 4000000 in
set_option maxRecDepth 100000 in
theorem fX12_has (l : Launch) (g : GG) (ad : Nat → Nat) (hD : Dj ad 20) (S : SS) (hX : ∀ i, i < 20 → S i = M0 g ad i) (a1 : Int32) : Met l yX12_has (wG (.code yX12_has cX12_has 2 (some .int))) (Rm 2) (XPre g ad 20 S [.ref (ad 0), .int a1]) (va_Qi (fun r _ => r = (-2)) (QB g ad 20) (FA ad 20)) 0 0 (FA ad 20) := by
  refine xmet cX12_has "EbbWreckModel" (by decide) rfl (Nat.le_of_ble_eq_true rfl) (fun p e s m below meth c E hr hlk hml hQ ls hl => ?_)
  have hx := E.1
  have hb := E.2.1
  have hs : Sp ad 20 (FA ad 20) := Sp.fa hD
  have hl : lv_has ls 2 [(0, .ref (ad 0)), (1, .int a1)] := hl
  refine lv_aload_n hx hb dX12_has_0 rfl (lv_at hl 0 rfl) ?_
  refine lv_iconst (v := 0) hx hb dX12_has_1 (by decide) ?_
  have c_1 : S 0 = .inr (12, [.int 0, .ref (ad 1), .ref (ad 2), .ref (ad 3), .ref (ad 4), .ref (ad 5), .int 0, .int 0, .int 0, .int 0, .int 0, .long 0, .int 0, .int 0, .int 0, .int (-1), .ref (ad 6), .ref (ad 7), .ref (ad 8), .ref (ad 9), .ref (ad 10), .ref (ad 11), .ref (ad 12), .ref (ad 13), .ref (ad 14), .ref (ad 15), .int 0, .int 0, .ref (ad 16), .int 0, .int 0, .int 0, .int 0, .int 0, .ref (ad 17), .ref (ad 18), .int 0, .ref (ad 19)]) := (hX 0 (by decide))
  refine xputi E hs hQ 0 (by decide) c_1 rfl 0 (by decide) q1468 rfl rfl (Nat.le_of_ble_eq_true rfl) dX12_has_2 (fun H locs S2 e2 hQ => ?_)
  have hX : ∀ i, i < 20 → S2 i = M0 g ad i := same_up hX e2 rfl
  refine lv_aload_n hx hb dX12_has_5 rfl (lv_at hl 0 rfl) ?_
  refine lv_iload_n hx hb dX12_has_6 rfl (lv_at hl 1 rfl) ?_
  have c_3 : S2 0 = .inr (12, [.int 0, .ref (ad 1), .ref (ad 2), .ref (ad 3), .ref (ad 4), .ref (ad 5), .int 0, .int 0, .int 0, .int 0, .int 0, .long 0, .int 0, .int 0, .int 0, .int (-1), .ref (ad 6), .ref (ad 7), .ref (ad 8), .ref (ad 9), .ref (ad 10), .ref (ad 11), .ref (ad 12), .ref (ad 13), .ref (ad 14), .ref (ad 15), .int 0, .int 0, .ref (ad 16), .int 0, .int 0, .int 0, .int 0, .int 0, .ref (ad 17), .ref (ad 18), .int 0, .ref (ad 19)]) := (hX 0 (by decide))
  refine xcVi E hs hQ hml hl.1 0 (fX12_isParty l g ad hD S2 hX a1) mX12_isParty q1874 (by decide) c_3 rfl rfl ⟨by decide, by decide⟩ ⟨by decide, by decide⟩ (by decide) rfl dX12_has_7 (fun r4 S4 H locs hp4 hQ _ => ?_)
  obtain ⟨rfl, rfl⟩ := hp4
  refine lv_if_ne (tgt := 16) hx hb dX12_has_10 (by decide) (fun k_5 => absurd k_5 (by decide)) (fun k_5 => ?_)
  refine lv_bipush (v := (-2)) hx hb dX12_has_13 (by decide) ?_
  exact xri E hr hlk hQ (rfl) dX12_has_15
set_option maxHeartbeats 4000000 in
set_option maxRecDepth 100000 in
theorem fX12_line_ (l : Launch) (g : GG) (ad : Nat → Nat) (hD : Dj ad 20) (S : SS) (hX : ∀ i, i < 20 → S i = M0 g ad i) (a1 : Int32) : Met l yX12_line_ (wG (.code yX12_line_ cX12_line_ 4 (some .int))) (Rm 2) (XPre g ad 20 S [.ref (ad 0), .int a1]) (va_Qi (fun r _ => r = (-2)) (QB g ad 20) (FA ad 20)) 0 0 (FA ad 20) := by
  refine xmet cX12_line_ "EbbWreckModel" (by decide) rfl (Nat.le_of_ble_eq_true rfl) (fun p e s m below meth c E hr hlk hml hQ ls hl => ?_)
  have hx := E.1
  have hb := E.2.1
  have hs : Sp ad 20 (FA ad 20) := Sp.fa hD
  have hl : lv_has ls 4 [(0, .ref (ad 0)), (1, .int a1)] := hl
  refine lv_aload_n hx hb dX12_line__0 rfl (lv_at hl 0 rfl) ?_
  refine lv_iconst (v := 0) hx hb dX12_line__1 (by decide) ?_
  have c_1 : S 0 = .inr (12, [.int 0, .ref (ad 1), .ref (ad 2), .ref (ad 3), .ref (ad 4), .ref (ad 5), .int 0, .int 0, .int 0, .int 0, .int 0, .long 0, .int 0, .int 0, .int 0, .int (-1), .ref (ad 6), .ref (ad 7), .ref (ad 8), .ref (ad 9), .ref (ad 10), .ref (ad 11), .ref (ad 12), .ref (ad 13), .ref (ad 14), .ref (ad 15), .int 0, .int 0, .ref (ad 16), .int 0, .int 0, .int 0, .int 0, .int 0, .ref (ad 17), .ref (ad 18), .int 0, .ref (ad 19)]) := (hX 0 (by decide))
  refine xputi E hs hQ 0 (by decide) c_1 rfl 0 (by decide) q1468 rfl rfl (Nat.le_of_ble_eq_true rfl) dX12_line__2 (fun H locs S2 e2 hQ => ?_)
  have hX : ∀ i, i < 20 → S2 i = M0 g ad i := same_up hX e2 rfl
  refine lv_aload_n hx hb dX12_line__5 rfl (lv_at hl 0 rfl) ?_
  refine lv_iload_n hx hb dX12_line__6 rfl (lv_at hl 1 rfl) ?_
  refine lv_i2l hx hb dX12_line__7 rfl ?_
  have c_3 : S2 0 = .inr (12, [.int 0, .ref (ad 1), .ref (ad 2), .ref (ad 3), .ref (ad 4), .ref (ad 5), .int 0, .int 0, .int 0, .int 0, .int 0, .long 0, .int 0, .int 0, .int 0, .int (-1), .ref (ad 6), .ref (ad 7), .ref (ad 8), .ref (ad 9), .ref (ad 10), .ref (ad 11), .ref (ad 12), .ref (ad 13), .ref (ad 14), .ref (ad 15), .int 0, .int 0, .ref (ad 16), .int 0, .int 0, .int 0, .int 0, .int 0, .ref (ad 17), .ref (ad 18), .int 0, .ref (ad 19)]) := (hX 0 (by decide))
  refine xcVi E hs hQ hml hl.1 0 (fX12_isCell l g ad hD S2 hX a1.toInt64) mX12_isCell q1750 (by decide) c_3 rfl rfl ⟨by decide, by decide⟩ ⟨by decide, by decide⟩ (by decide) rfl dX12_line__8 (fun r4 S4 H locs hp4 hQ _ => ?_)
  obtain ⟨rfl, rfl⟩ := hp4
  refine lv_if_ne (tgt := 17) hx hb dX12_line__11 (by decide) (fun k_5 => absurd k_5 (by decide)) (fun k_5 => ?_)
  refine lv_bipush (v := (-2)) hx hb dX12_line__14 (by decide) ?_
  exact xri E hr hlk hQ (rfl) dX12_line__16
set_option maxHeartbeats 4000000 in
set_option maxRecDepth 100000 in
theorem fX12_richest (l : Launch) (g : GG) (ad : Nat → Nat) (hD : Dj ad 20) (S : SS) (hX : ∀ i, i < 20 → S i = M0 g ad i) : Met l yX12_richest (wG (.code yX12_richest cX12_richest 3 (some .int))) (Rm 1) (XPre g ad 20 S [.ref (ad 0)]) (va_Qi (fun r _ => r = (-2)) (QB g ad 20) (FA ad 20)) 0 0 (FA ad 20) := by
  refine xmet cX12_richest "EbbWreckModel" (by decide) rfl (Nat.le_of_ble_eq_true rfl) (fun p e s m below meth c E hr hlk hml hQ ls hl => ?_)
  have hx := E.1
  have hb := E.2.1
  have hs : Sp ad 20 (FA ad 20) := Sp.fa hD
  have hl : lv_has ls 3 [(0, .ref (ad 0))] := hl
  refine lv_aload_n hx hb dX12_richest_0 rfl (lv_at hl 0 rfl) ?_
  refine lv_iconst (v := 0) hx hb dX12_richest_1 (by decide) ?_
  have c_1 : S 0 = .inr (12, [.int 0, .ref (ad 1), .ref (ad 2), .ref (ad 3), .ref (ad 4), .ref (ad 5), .int 0, .int 0, .int 0, .int 0, .int 0, .long 0, .int 0, .int 0, .int 0, .int (-1), .ref (ad 6), .ref (ad 7), .ref (ad 8), .ref (ad 9), .ref (ad 10), .ref (ad 11), .ref (ad 12), .ref (ad 13), .ref (ad 14), .ref (ad 15), .int 0, .int 0, .ref (ad 16), .int 0, .int 0, .int 0, .int 0, .int 0, .ref (ad 17), .ref (ad 18), .int 0, .ref (ad 19)]) := (hX 0 (by decide))
  refine xputi E hs hQ 0 (by decide) c_1 rfl 0 (by decide) q1468 rfl rfl (Nat.le_of_ble_eq_true rfl) dX12_richest_2 (fun H locs S2 e2 hQ => ?_)
  have hX : ∀ i, i < 20 → S2 i = M0 g ad i := same_up hX e2 rfl
  refine lv_aload_n hx hb dX12_richest_5 rfl (lv_at hl 0 rfl) ?_
  have c_3 : S2 0 = .inr (12, [.int 0, .ref (ad 1), .ref (ad 2), .ref (ad 3), .ref (ad 4), .ref (ad 5), .int 0, .int 0, .int 0, .int 0, .int 0, .long 0, .int 0, .int 0, .int 0, .int (-1), .ref (ad 6), .ref (ad 7), .ref (ad 8), .ref (ad 9), .ref (ad 10), .ref (ad 11), .ref (ad 12), .ref (ad 13), .ref (ad 14), .ref (ad 15), .int 0, .int 0, .ref (ad 16), .int 0, .int 0, .int 0, .int 0, .int 0, .ref (ad 17), .ref (ad 18), .int 0, .ref (ad 19)]) := (hX 0 (by decide))
  refine xcVi E hs hQ hml hl.1 0 (fX12_isShore l g ad hD S2 hX ) mX12_isShore q1782 (by decide) c_3 rfl rfl ⟨by decide, by decide⟩ ⟨by decide, by decide⟩ (by decide) rfl dX12_richest_6 (fun r4 S4 H locs hp4 hQ _ => ?_)
  obtain ⟨rfl, rfl⟩ := hp4
  refine lv_if_ne (tgt := 15) hx hb dX12_richest_9 (by decide) (fun k_5 => absurd k_5 (by decide)) (fun k_5 => ?_)
  refine lv_bipush (v := (-2)) hx hb dX12_richest_12 (by decide) ?_
  exact xri E hr hlk hQ (rfl) dX12_richest_14
set_option maxHeartbeats 4000000 in
set_option maxRecDepth 100000 in
theorem fX12_meet (l : Launch) (g : GG) (ad : Nat → Nat) (hD : Dj ad 20) (S : SS) (hX : ∀ i, i < 20 → S i = M0 g ad i) (a1 : Int32) (a2 : Int32) : Met l yX12_meet (wG (.code yX12_meet cX12_meet 6 (some .int))) (Rm 2) (XPre g ad 20 S [.ref (ad 0), .int a1, .int a2]) (va_Qi (fun r _ => r = (-2)) (QB g ad 20) (FA ad 20)) 0 0 (FA ad 20) := by
  refine xmet cX12_meet "EbbWreckModel" (by decide) rfl (Nat.le_of_ble_eq_true rfl) (fun p e s m below meth c E hr hlk hml hQ ls hl => ?_)
  have hx := E.1
  have hb := E.2.1
  have hs : Sp ad 20 (FA ad 20) := Sp.fa hD
  have hl : lv_has ls 6 [(0, .ref (ad 0)), (1, .int a1), (2, .int a2)] := hl
  refine lv_aload_n hx hb dX12_meet_0 rfl (lv_at hl 0 rfl) ?_
  refine lv_iconst (v := 0) hx hb dX12_meet_1 (by decide) ?_
  have c_1 : S 0 = .inr (12, [.int 0, .ref (ad 1), .ref (ad 2), .ref (ad 3), .ref (ad 4), .ref (ad 5), .int 0, .int 0, .int 0, .int 0, .int 0, .long 0, .int 0, .int 0, .int 0, .int (-1), .ref (ad 6), .ref (ad 7), .ref (ad 8), .ref (ad 9), .ref (ad 10), .ref (ad 11), .ref (ad 12), .ref (ad 13), .ref (ad 14), .ref (ad 15), .int 0, .int 0, .ref (ad 16), .int 0, .int 0, .int 0, .int 0, .int 0, .ref (ad 17), .ref (ad 18), .int 0, .ref (ad 19)]) := (hX 0 (by decide))
  refine xputi E hs hQ 0 (by decide) c_1 rfl 0 (by decide) q1468 rfl rfl (Nat.le_of_ble_eq_true rfl) dX12_meet_2 (fun H locs S2 e2 hQ => ?_)
  have hX : ∀ i, i < 20 → S2 i = M0 g ad i := same_up hX e2 rfl
  refine lv_aload_n hx hb dX12_meet_5 rfl (lv_at hl 0 rfl) ?_
  refine lv_iload_n hx hb dX12_meet_6 rfl (lv_at hl 1 rfl) ?_
  have c_3 : S2 0 = .inr (12, [.int 0, .ref (ad 1), .ref (ad 2), .ref (ad 3), .ref (ad 4), .ref (ad 5), .int 0, .int 0, .int 0, .int 0, .int 0, .long 0, .int 0, .int 0, .int 0, .int (-1), .ref (ad 6), .ref (ad 7), .ref (ad 8), .ref (ad 9), .ref (ad 10), .ref (ad 11), .ref (ad 12), .ref (ad 13), .ref (ad 14), .ref (ad 15), .int 0, .int 0, .ref (ad 16), .int 0, .int 0, .int 0, .int 0, .int 0, .ref (ad 17), .ref (ad 18), .int 0, .ref (ad 19)]) := (hX 0 (by decide))
  refine xcVi E hs hQ hml hl.1 0 (fX12_isThing l g ad hD S2 hX a1) mX12_isThing q1766 (by decide) c_3 rfl rfl ⟨by decide, by decide⟩ ⟨by decide, by decide⟩ (by decide) rfl dX12_meet_7 (fun r4 S4 H locs hp4 hQ _ => ?_)
  obtain ⟨rfl, rfl⟩ := hp4
  refine lv_if_eq (tgt := 26) hx hb dX12_meet_10 (by decide) (fun k_5 => ?_) (fun k_5 => absurd k_5 (by decide))
  refine lv_bipush (v := (-2)) hx hb dX12_meet_26 (by decide) ?_
  exact xri E hr hlk hQ (rfl) dX12_meet_28
set_option maxHeartbeats 4000000 in
set_option maxRecDepth 100000 in
theorem fX12_argued (l : Launch) (g : GG) (ad : Nat → Nat) (hD : Dj ad 20) (S : SS) (hX : ∀ i, i < 20 → S i = M0 g ad i) : Met l yX12_argued (wG (.code yX12_argued cX12_argued 5 (some .int))) (Rm 1) (XPre g ad 20 S [.ref (ad 0)]) (va_Qi (fun r _ => r = (-2)) (QB g ad 20) (FA ad 20)) 0 0 (FA ad 20) := by
  refine xmet cX12_argued "EbbWreckModel" (by decide) rfl (Nat.le_of_ble_eq_true rfl) (fun p e s m below meth c E hr hlk hml hQ ls hl => ?_)
  have hx := E.1
  have hb := E.2.1
  have hs : Sp ad 20 (FA ad 20) := Sp.fa hD
  have hl : lv_has ls 5 [(0, .ref (ad 0))] := hl
  refine lv_aload_n hx hb dX12_argued_0 rfl (lv_at hl 0 rfl) ?_
  refine lv_iconst (v := 0) hx hb dX12_argued_1 (by decide) ?_
  have c_1 : S 0 = .inr (12, [.int 0, .ref (ad 1), .ref (ad 2), .ref (ad 3), .ref (ad 4), .ref (ad 5), .int 0, .int 0, .int 0, .int 0, .int 0, .long 0, .int 0, .int 0, .int 0, .int (-1), .ref (ad 6), .ref (ad 7), .ref (ad 8), .ref (ad 9), .ref (ad 10), .ref (ad 11), .ref (ad 12), .ref (ad 13), .ref (ad 14), .ref (ad 15), .int 0, .int 0, .ref (ad 16), .int 0, .int 0, .int 0, .int 0, .int 0, .ref (ad 17), .ref (ad 18), .int 0, .ref (ad 19)]) := (hX 0 (by decide))
  refine xputi E hs hQ 0 (by decide) c_1 rfl 0 (by decide) q1468 rfl rfl (Nat.le_of_ble_eq_true rfl) dX12_argued_2 (fun H locs S2 e2 hQ => ?_)
  have hX : ∀ i, i < 20 → S2 i = M0 g ad i := same_up hX e2 rfl
  refine lv_aload_n hx hb dX12_argued_5 rfl (lv_at hl 0 rfl) ?_
  have c_3 : S2 0 = .inr (12, [.int 0, .ref (ad 1), .ref (ad 2), .ref (ad 3), .ref (ad 4), .ref (ad 5), .int 0, .int 0, .int 0, .int 0, .int 0, .long 0, .int 0, .int 0, .int 0, .int (-1), .ref (ad 6), .ref (ad 7), .ref (ad 8), .ref (ad 9), .ref (ad 10), .ref (ad 11), .ref (ad 12), .ref (ad 13), .ref (ad 14), .ref (ad 15), .int 0, .int 0, .ref (ad 16), .int 0, .int 0, .int 0, .int 0, .int 0, .ref (ad 17), .ref (ad 18), .int 0, .ref (ad 19)]) := (hX 0 (by decide))
  refine xcVi E hs hQ hml hl.1 0 (fX12_isShore l g ad hD S2 hX ) mX12_isShore q1782 (by decide) c_3 rfl rfl ⟨by decide, by decide⟩ ⟨by decide, by decide⟩ (by decide) rfl dX12_argued_6 (fun r4 S4 H locs hp4 hQ _ => ?_)
  obtain ⟨rfl, rfl⟩ := hp4
  refine lv_if_ne (tgt := 15) hx hb dX12_argued_9 (by decide) (fun k_5 => absurd k_5 (by decide)) (fun k_5 => ?_)
  refine lv_bipush (v := (-2)) hx hb dX12_argued_12 (by decide) ?_
  exact xri E hr hlk hQ (rfl) dX12_argued_14
set_option maxHeartbeats 4000000 in
set_option maxRecDepth 100000 in
theorem fX12_gaps (l : Launch) (g : GG) (ad : Nat → Nat) (hD : Dj ad 20) (S : SS) (hX : ∀ i, i < 20 → S i = M0 g ad i) (a1 : Int32) : Met l yX12_gaps (wG (.code yX12_gaps cX12_gaps 4 (some .int))) (Rm 1) (XPre g ad 20 S [.ref (ad 0), .int a1]) (va_Qi (fun r _ => r = (-2)) (QB g ad 20) (FA ad 20)) 0 0 (FA ad 20) := by
  refine xmet cX12_gaps "EbbWreckModel" (by decide) rfl (Nat.le_of_ble_eq_true rfl) (fun p e s m below meth c E hr hlk hml hQ ls hl => ?_)
  have hx := E.1
  have hb := E.2.1
  have hs : Sp ad 20 (FA ad 20) := Sp.fa hD
  have hl : lv_has ls 4 [(0, .ref (ad 0)), (1, .int a1)] := hl
  refine lv_aload_n hx hb dX12_gaps_0 rfl (lv_at hl 0 rfl) ?_
  refine lv_iconst (v := 0) hx hb dX12_gaps_1 (by decide) ?_
  have c_1 : S 0 = .inr (12, [.int 0, .ref (ad 1), .ref (ad 2), .ref (ad 3), .ref (ad 4), .ref (ad 5), .int 0, .int 0, .int 0, .int 0, .int 0, .long 0, .int 0, .int 0, .int 0, .int (-1), .ref (ad 6), .ref (ad 7), .ref (ad 8), .ref (ad 9), .ref (ad 10), .ref (ad 11), .ref (ad 12), .ref (ad 13), .ref (ad 14), .ref (ad 15), .int 0, .int 0, .ref (ad 16), .int 0, .int 0, .int 0, .int 0, .int 0, .ref (ad 17), .ref (ad 18), .int 0, .ref (ad 19)]) := (hX 0 (by decide))
  refine xputi E hs hQ 0 (by decide) c_1 rfl 0 (by decide) q1468 rfl rfl (Nat.le_of_ble_eq_true rfl) dX12_gaps_2 (fun H locs S2 e2 hQ => ?_)
  have hX : ∀ i, i < 20 → S2 i = M0 g ad i := same_up hX e2 rfl
  refine lv_aload_n hx hb dX12_gaps_5 rfl (lv_at hl 0 rfl) ?_
  have c_3 : S2 0 = .inr (12, [.int 0, .ref (ad 1), .ref (ad 2), .ref (ad 3), .ref (ad 4), .ref (ad 5), .int 0, .int 0, .int 0, .int 0, .int 0, .long 0, .int 0, .int 0, .int 0, .int (-1), .ref (ad 6), .ref (ad 7), .ref (ad 8), .ref (ad 9), .ref (ad 10), .ref (ad 11), .ref (ad 12), .ref (ad 13), .ref (ad 14), .ref (ad 15), .int 0, .int 0, .ref (ad 16), .int 0, .int 0, .int 0, .int 0, .int 0, .ref (ad 17), .ref (ad 18), .int 0, .ref (ad 19)]) := (hX 0 (by decide))
  refine xcVi E hs hQ hml hl.1 0 (fX12_isShore l g ad hD S2 hX ) mX12_isShore q1782 (by decide) c_3 rfl rfl ⟨by decide, by decide⟩ ⟨by decide, by decide⟩ (by decide) rfl dX12_gaps_6 (fun r4 S4 H locs hp4 hQ _ => ?_)
  obtain ⟨rfl, rfl⟩ := hp4
  refine lv_if_eq (tgt := 24) hx hb dX12_gaps_9 (by decide) (fun k_5 => ?_) (fun k_5 => absurd k_5 (by decide))
  refine lv_bipush (v := (-2)) hx hb dX12_gaps_24 (by decide) ?_
  exact xri E hr hlk hQ (rfl) dX12_gaps_26
set_option maxHeartbeats 4000000 in
set_option maxRecDepth 100000 in
theorem fX12_idle (l : Launch) (g : GG) (ad : Nat → Nat) (hD : Dj ad 20) (S : SS) (hX : ∀ i, i < 20 → S i = M0 g ad i) : Met l yX12_idle (wG (.code yX12_idle cX12_idle 3 (some .int))) (Rm 1) (XPre g ad 20 S [.ref (ad 0)]) (va_Qi (fun r _ => r = (-2)) (QB g ad 20) (FA ad 20)) 0 0 (FA ad 20) := by
  refine xmet cX12_idle "EbbWreckModel" (by decide) rfl (Nat.le_of_ble_eq_true rfl) (fun p e s m below meth c E hr hlk hml hQ ls hl => ?_)
  have hx := E.1
  have hb := E.2.1
  have hs : Sp ad 20 (FA ad 20) := Sp.fa hD
  have hl : lv_has ls 3 [(0, .ref (ad 0))] := hl
  refine lv_aload_n hx hb dX12_idle_0 rfl (lv_at hl 0 rfl) ?_
  refine lv_iconst (v := 0) hx hb dX12_idle_1 (by decide) ?_
  have c_1 : S 0 = .inr (12, [.int 0, .ref (ad 1), .ref (ad 2), .ref (ad 3), .ref (ad 4), .ref (ad 5), .int 0, .int 0, .int 0, .int 0, .int 0, .long 0, .int 0, .int 0, .int 0, .int (-1), .ref (ad 6), .ref (ad 7), .ref (ad 8), .ref (ad 9), .ref (ad 10), .ref (ad 11), .ref (ad 12), .ref (ad 13), .ref (ad 14), .ref (ad 15), .int 0, .int 0, .ref (ad 16), .int 0, .int 0, .int 0, .int 0, .int 0, .ref (ad 17), .ref (ad 18), .int 0, .ref (ad 19)]) := (hX 0 (by decide))
  refine xputi E hs hQ 0 (by decide) c_1 rfl 0 (by decide) q1468 rfl rfl (Nat.le_of_ble_eq_true rfl) dX12_idle_2 (fun H locs S2 e2 hQ => ?_)
  have hX : ∀ i, i < 20 → S2 i = M0 g ad i := same_up hX e2 rfl
  refine lv_aload_n hx hb dX12_idle_5 rfl (lv_at hl 0 rfl) ?_
  have c_3 : S2 0 = .inr (12, [.int 0, .ref (ad 1), .ref (ad 2), .ref (ad 3), .ref (ad 4), .ref (ad 5), .int 0, .int 0, .int 0, .int 0, .int 0, .long 0, .int 0, .int 0, .int 0, .int (-1), .ref (ad 6), .ref (ad 7), .ref (ad 8), .ref (ad 9), .ref (ad 10), .ref (ad 11), .ref (ad 12), .ref (ad 13), .ref (ad 14), .ref (ad 15), .int 0, .int 0, .ref (ad 16), .int 0, .int 0, .int 0, .int 0, .int 0, .ref (ad 17), .ref (ad 18), .int 0, .ref (ad 19)]) := (hX 0 (by decide))
  refine xcVi E hs hQ hml hl.1 0 (fX12_isShore l g ad hD S2 hX ) mX12_isShore q1782 (by decide) c_3 rfl rfl ⟨by decide, by decide⟩ ⟨by decide, by decide⟩ (by decide) rfl dX12_idle_6 (fun r4 S4 H locs hp4 hQ _ => ?_)
  obtain ⟨rfl, rfl⟩ := hp4
  refine lv_if_ne (tgt := 15) hx hb dX12_idle_9 (by decide) (fun k_5 => absurd k_5 (by decide)) (fun k_5 => ?_)
  refine lv_bipush (v := (-2)) hx hb dX12_idle_12 (by decide) ?_
  exact xri E hr hlk hQ (rfl) dX12_idle_14
set_option maxHeartbeats 4000000 in
set_option maxRecDepth 100000 in
theorem fX12_without (l : Launch) (g : GG) (ad : Nat → Nat) (hD : Dj ad 20) (S : SS) (hX : ∀ i, i < 20 → S i = M0 g ad i) (a1 : Int32) (a2 : Int32) : Met l yX12_without (wG (.code yX12_without cX12_without 3 (some .int))) (Rm 2) (XPre g ad 20 S [.ref (ad 0), .int a1, .int a2]) (va_Qi (fun r _ => r = (-2)) (QB g ad 20) (FA ad 20)) 0 0 (FA ad 20) := by
  refine xmet cX12_without "EbbWreckModel" (by decide) rfl (Nat.le_of_ble_eq_true rfl) (fun p e s m below meth c E hr hlk hml hQ ls hl => ?_)
  have hx := E.1
  have hb := E.2.1
  have hs : Sp ad 20 (FA ad 20) := Sp.fa hD
  have hl : lv_has ls 3 [(0, .ref (ad 0)), (1, .int a1), (2, .int a2)] := hl
  refine lv_aload_n hx hb dX12_without_0 rfl (lv_at hl 0 rfl) ?_
  refine lv_iconst (v := 0) hx hb dX12_without_1 (by decide) ?_
  have c_1 : S 0 = .inr (12, [.int 0, .ref (ad 1), .ref (ad 2), .ref (ad 3), .ref (ad 4), .ref (ad 5), .int 0, .int 0, .int 0, .int 0, .int 0, .long 0, .int 0, .int 0, .int 0, .int (-1), .ref (ad 6), .ref (ad 7), .ref (ad 8), .ref (ad 9), .ref (ad 10), .ref (ad 11), .ref (ad 12), .ref (ad 13), .ref (ad 14), .ref (ad 15), .int 0, .int 0, .ref (ad 16), .int 0, .int 0, .int 0, .int 0, .int 0, .ref (ad 17), .ref (ad 18), .int 0, .ref (ad 19)]) := (hX 0 (by decide))
  refine xputi E hs hQ 0 (by decide) c_1 rfl 0 (by decide) q1468 rfl rfl (Nat.le_of_ble_eq_true rfl) dX12_without_2 (fun H locs S2 e2 hQ => ?_)
  have hX : ∀ i, i < 20 → S2 i = M0 g ad i := same_up hX e2 rfl
  refine lv_aload_n hx hb dX12_without_5 rfl (lv_at hl 0 rfl) ?_
  refine lv_iload_n hx hb dX12_without_6 rfl (lv_at hl 1 rfl) ?_
  have c_3 : S2 0 = .inr (12, [.int 0, .ref (ad 1), .ref (ad 2), .ref (ad 3), .ref (ad 4), .ref (ad 5), .int 0, .int 0, .int 0, .int 0, .int 0, .long 0, .int 0, .int 0, .int 0, .int (-1), .ref (ad 6), .ref (ad 7), .ref (ad 8), .ref (ad 9), .ref (ad 10), .ref (ad 11), .ref (ad 12), .ref (ad 13), .ref (ad 14), .ref (ad 15), .int 0, .int 0, .ref (ad 16), .int 0, .int 0, .int 0, .int 0, .int 0, .ref (ad 17), .ref (ad 18), .int 0, .ref (ad 19)]) := (hX 0 (by decide))
  refine xcVi E hs hQ hml hl.1 0 (fX12_isRule l g ad hD S2 hX a1) mX12_isRule q1774 (by decide) c_3 rfl rfl ⟨by decide, by decide⟩ ⟨by decide, by decide⟩ (by decide) rfl dX12_without_7 (fun r4 S4 H locs hp4 hQ _ => ?_)
  obtain ⟨rfl, rfl⟩ := hp4
  refine lv_if_eq (tgt := 21) hx hb dX12_without_10 (by decide) (fun k_5 => ?_) (fun k_5 => absurd k_5 (by decide))
  refine lv_bipush (v := (-2)) hx hb dX12_without_21 (by decide) ?_
  exact xri E hr hlk hQ (rfl) dX12_without_23
set_option maxHeartbeats 4000000 in
set_option maxRecDepth 100000 in
theorem fX12_strike (l : Launch) (g : GG) (ad : Nat → Nat) (hD : Dj ad 20) (S : SS) (hX : ∀ i, i < 20 → S i = M0 g ad i) (a1 : Int32) : Met l yX12_strike (wG (.code yX12_strike cX12_strike 6 (some .int))) (Rm 2) (XPre g ad 20 S [.ref (ad 0), .int a1]) (va_Qi (fun r _ => r = (-2)) (QB g ad 20) (FA ad 20)) 0 0 (FA ad 20) := by
  refine xmet cX12_strike "EbbWreckModel" (by decide) rfl (Nat.le_of_ble_eq_true rfl) (fun p e s m below meth c E hr hlk hml hQ ls hl => ?_)
  have hx := E.1
  have hb := E.2.1
  have hs : Sp ad 20 (FA ad 20) := Sp.fa hD
  have hl : lv_has ls 6 [(0, .ref (ad 0)), (1, .int a1)] := hl
  refine lv_aload_n hx hb dX12_strike_0 rfl (lv_at hl 0 rfl) ?_
  refine lv_iconst (v := 0) hx hb dX12_strike_1 (by decide) ?_
  have c_1 : S 0 = .inr (12, [.int 0, .ref (ad 1), .ref (ad 2), .ref (ad 3), .ref (ad 4), .ref (ad 5), .int 0, .int 0, .int 0, .int 0, .int 0, .long 0, .int 0, .int 0, .int 0, .int (-1), .ref (ad 6), .ref (ad 7), .ref (ad 8), .ref (ad 9), .ref (ad 10), .ref (ad 11), .ref (ad 12), .ref (ad 13), .ref (ad 14), .ref (ad 15), .int 0, .int 0, .ref (ad 16), .int 0, .int 0, .int 0, .int 0, .int 0, .ref (ad 17), .ref (ad 18), .int 0, .ref (ad 19)]) := (hX 0 (by decide))
  refine xputi E hs hQ 0 (by decide) c_1 rfl 0 (by decide) q1468 rfl rfl (Nat.le_of_ble_eq_true rfl) dX12_strike_2 (fun H locs S2 e2 hQ => ?_)
  have hX : ∀ i, i < 20 → S2 i = M0 g ad i := same_up hX e2 rfl
  refine lv_aload_n hx hb dX12_strike_5 rfl (lv_at hl 0 rfl) ?_
  refine lv_iload_n hx hb dX12_strike_6 rfl (lv_at hl 1 rfl) ?_
  have c_3 : S2 0 = .inr (12, [.int 0, .ref (ad 1), .ref (ad 2), .ref (ad 3), .ref (ad 4), .ref (ad 5), .int 0, .int 0, .int 0, .int 0, .int 0, .long 0, .int 0, .int 0, .int 0, .int (-1), .ref (ad 6), .ref (ad 7), .ref (ad 8), .ref (ad 9), .ref (ad 10), .ref (ad 11), .ref (ad 12), .ref (ad 13), .ref (ad 14), .ref (ad 15), .int 0, .int 0, .ref (ad 16), .int 0, .int 0, .int 0, .int 0, .int 0, .ref (ad 17), .ref (ad 18), .int 0, .ref (ad 19)]) := (hX 0 (by decide))
  refine xcVi E hs hQ hml hl.1 0 (fX12_isParty l g ad hD S2 hX a1) mX12_isParty q1874 (by decide) c_3 rfl rfl ⟨by decide, by decide⟩ ⟨by decide, by decide⟩ (by decide) rfl dX12_strike_7 (fun r4 S4 H locs hp4 hQ _ => ?_)
  obtain ⟨rfl, rfl⟩ := hp4
  refine lv_if_ne (tgt := 16) hx hb dX12_strike_10 (by decide) (fun k_5 => absurd k_5 (by decide)) (fun k_5 => ?_)
  refine lv_bipush (v := (-2)) hx hb dX12_strike_13 (by decide) ?_
  exact xri E hr hlk hQ (rfl) dX12_strike_15
set_option maxHeartbeats 4000000 in
set_option maxRecDepth 100000 in
theorem fX12_clock (l : Launch) (g : GG) (ad : Nat → Nat) (hD : Dj ad 20) (S : SS) (hX : ∀ i, i < 20 → S i = M0 g ad i) (a1 : Int32) (a2 : Int32) : Met l yX12_clock (wG (.code yX12_clock cX12_clock 3 (some .int))) (Rm 2) (XPre g ad 20 S [.ref (ad 0), .int a1, .int a2]) (va_Qi (fun r _ => r = (-2)) (QB g ad 20) (FA ad 20)) 0 0 (FA ad 20) := by
  refine xmet cX12_clock "EbbWreckModel" (by decide) rfl (Nat.le_of_ble_eq_true rfl) (fun p e s m below meth c E hr hlk hml hQ ls hl => ?_)
  have hx := E.1
  have hb := E.2.1
  have hs : Sp ad 20 (FA ad 20) := Sp.fa hD
  have hl : lv_has ls 3 [(0, .ref (ad 0)), (1, .int a1), (2, .int a2)] := hl
  refine lv_aload_n hx hb dX12_clock_0 rfl (lv_at hl 0 rfl) ?_
  refine lv_iconst (v := 0) hx hb dX12_clock_1 (by decide) ?_
  have c_1 : S 0 = .inr (12, [.int 0, .ref (ad 1), .ref (ad 2), .ref (ad 3), .ref (ad 4), .ref (ad 5), .int 0, .int 0, .int 0, .int 0, .int 0, .long 0, .int 0, .int 0, .int 0, .int (-1), .ref (ad 6), .ref (ad 7), .ref (ad 8), .ref (ad 9), .ref (ad 10), .ref (ad 11), .ref (ad 12), .ref (ad 13), .ref (ad 14), .ref (ad 15), .int 0, .int 0, .ref (ad 16), .int 0, .int 0, .int 0, .int 0, .int 0, .ref (ad 17), .ref (ad 18), .int 0, .ref (ad 19)]) := (hX 0 (by decide))
  refine xputi E hs hQ 0 (by decide) c_1 rfl 0 (by decide) q1468 rfl rfl (Nat.le_of_ble_eq_true rfl) dX12_clock_2 (fun H locs S2 e2 hQ => ?_)
  have hX : ∀ i, i < 20 → S2 i = M0 g ad i := same_up hX e2 rfl
  refine lv_aload_n hx hb dX12_clock_5 rfl (lv_at hl 0 rfl) ?_
  refine lv_iload_n hx hb dX12_clock_6 rfl (lv_at hl 1 rfl) ?_
  have c_3 : S2 0 = .inr (12, [.int 0, .ref (ad 1), .ref (ad 2), .ref (ad 3), .ref (ad 4), .ref (ad 5), .int 0, .int 0, .int 0, .int 0, .int 0, .long 0, .int 0, .int 0, .int 0, .int (-1), .ref (ad 6), .ref (ad 7), .ref (ad 8), .ref (ad 9), .ref (ad 10), .ref (ad 11), .ref (ad 12), .ref (ad 13), .ref (ad 14), .ref (ad 15), .int 0, .int 0, .ref (ad 16), .int 0, .int 0, .int 0, .int 0, .int 0, .ref (ad 17), .ref (ad 18), .int 0, .ref (ad 19)]) := (hX 0 (by decide))
  refine xcVi E hs hQ hml hl.1 0 (fX12_isParty l g ad hD S2 hX a1) mX12_isParty q1874 (by decide) c_3 rfl rfl ⟨by decide, by decide⟩ ⟨by decide, by decide⟩ (by decide) rfl dX12_clock_7 (fun r4 S4 H locs hp4 hQ _ => ?_)
  obtain ⟨rfl, rfl⟩ := hp4
  refine lv_if_eq (tgt := 27) hx hb dX12_clock_10 (by decide) (fun k_5 => ?_) (fun k_5 => absurd k_5 (by decide))
  refine lv_bipush (v := (-2)) hx hb dX12_clock_27 (by decide) ?_
  exact xri E hr hlk hQ (rfl) dX12_clock_29
set_option maxHeartbeats 4000000 in
set_option maxRecDepth 100000 in
theorem fX12_set (l : Launch) (g : GG) (ad : Nat → Nat) (hD : Dj ad 20) (S : SS) (hX : ∀ i, i < 20 → S i = M0 g ad i) (a1 : Int32) : Met l yX12_set (wG (.code yX12_set cX12_set 4 (some .int))) (Rm 2) (XPre g ad 20 S [.ref (ad 0), .int a1]) (va_Qi (fun r _ => r = (-1000)) (QB g ad 20) (FA ad 20)) 0 0 (FA ad 20) := by
  refine xmet cX12_set "EbbWreckModel" (by decide) rfl (Nat.le_of_ble_eq_true rfl) (fun p e s m below meth c E hr hlk hml hQ ls hl => ?_)
  have hx := E.1
  have hb := E.2.1
  have hs : Sp ad 20 (FA ad 20) := Sp.fa hD
  have hl : lv_has ls 4 [(0, .ref (ad 0)), (1, .int a1)] := hl
  refine lv_aload_n hx hb dX12_set_0 rfl (lv_at hl 0 rfl) ?_
  refine lv_iconst (v := 0) hx hb dX12_set_1 (by decide) ?_
  have c_1 : S 0 = .inr (12, [.int 0, .ref (ad 1), .ref (ad 2), .ref (ad 3), .ref (ad 4), .ref (ad 5), .int 0, .int 0, .int 0, .int 0, .int 0, .long 0, .int 0, .int 0, .int 0, .int (-1), .ref (ad 6), .ref (ad 7), .ref (ad 8), .ref (ad 9), .ref (ad 10), .ref (ad 11), .ref (ad 12), .ref (ad 13), .ref (ad 14), .ref (ad 15), .int 0, .int 0, .ref (ad 16), .int 0, .int 0, .int 0, .int 0, .int 0, .ref (ad 17), .ref (ad 18), .int 0, .ref (ad 19)]) := (hX 0 (by decide))
  refine xputi E hs hQ 0 (by decide) c_1 rfl 0 (by decide) q1468 rfl rfl (Nat.le_of_ble_eq_true rfl) dX12_set_2 (fun H locs S2 e2 hQ => ?_)
  have hX : ∀ i, i < 20 → S2 i = M0 g ad i := same_up hX e2 rfl
  refine lv_aload_n hx hb dX12_set_5 rfl (lv_at hl 0 rfl) ?_
  refine lv_iload_n hx hb dX12_set_6 rfl (lv_at hl 1 rfl) ?_
  have c_3 : S2 0 = .inr (12, [.int 0, .ref (ad 1), .ref (ad 2), .ref (ad 3), .ref (ad 4), .ref (ad 5), .int 0, .int 0, .int 0, .int 0, .int 0, .long 0, .int 0, .int 0, .int 0, .int (-1), .ref (ad 6), .ref (ad 7), .ref (ad 8), .ref (ad 9), .ref (ad 10), .ref (ad 11), .ref (ad 12), .ref (ad 13), .ref (ad 14), .ref (ad 15), .int 0, .int 0, .ref (ad 16), .int 0, .int 0, .int 0, .int 0, .int 0, .ref (ad 17), .ref (ad 18), .int 0, .ref (ad 19)]) := (hX 0 (by decide))
  refine xcVi E hs hQ hml hl.1 0 (fX12_isParty l g ad hD S2 hX a1) mX12_isParty q1874 (by decide) c_3 rfl rfl ⟨by decide, by decide⟩ ⟨by decide, by decide⟩ (by decide) rfl dX12_set_7 (fun r4 S4 H locs hp4 hQ _ => ?_)
  obtain ⟨rfl, rfl⟩ := hp4
  refine lv_if_ne (tgt := 17) hx hb dX12_set_10 (by decide) (fun k_5 => absurd k_5 (by decide)) (fun k_5 => ?_)
  refine lv_sipush (v := (-1000)) hx hb dX12_set_13 (by decide) ?_
  exact xri E hr hlk hQ (rfl) dX12_set_16
set_option maxHeartbeats 4000000 in
set_option maxRecDepth 100000 in
theorem fX12_pushes (l : Launch) (g : GG) (ad : Nat → Nat) (hD : Dj ad 20) (S : SS) (hX : ∀ i, i < 20 → S i = M0 g ad i) (a1 : Int32) (a2 : Int32) : Met l yX12_pushes (wG (.code yX12_pushes cX12_pushes 3 (some .int))) (Rm 3) (XPre g ad 20 S [.ref (ad 0), .int a1, .int a2]) (va_Qi (fun r _ => r = (-2)) (QB g ad 20) (FA ad 20)) 0 0 (FA ad 20) := by
  refine xmet cX12_pushes "EbbWreckModel" (by decide) rfl (Nat.le_of_ble_eq_true rfl) (fun p e s m below meth c E hr hlk hml hQ ls hl => ?_)
  have hx := E.1
  have hb := E.2.1
  have hs : Sp ad 20 (FA ad 20) := Sp.fa hD
  have hl : lv_has ls 3 [(0, .ref (ad 0)), (1, .int a1), (2, .int a2)] := hl
  refine lv_aload_n hx hb dX12_pushes_0 rfl (lv_at hl 0 rfl) ?_
  refine lv_iconst (v := 0) hx hb dX12_pushes_1 (by decide) ?_
  have c_1 : S 0 = .inr (12, [.int 0, .ref (ad 1), .ref (ad 2), .ref (ad 3), .ref (ad 4), .ref (ad 5), .int 0, .int 0, .int 0, .int 0, .int 0, .long 0, .int 0, .int 0, .int 0, .int (-1), .ref (ad 6), .ref (ad 7), .ref (ad 8), .ref (ad 9), .ref (ad 10), .ref (ad 11), .ref (ad 12), .ref (ad 13), .ref (ad 14), .ref (ad 15), .int 0, .int 0, .ref (ad 16), .int 0, .int 0, .int 0, .int 0, .int 0, .ref (ad 17), .ref (ad 18), .int 0, .ref (ad 19)]) := (hX 0 (by decide))
  refine xputi E hs hQ 0 (by decide) c_1 rfl 0 (by decide) q1468 rfl rfl (Nat.le_of_ble_eq_true rfl) dX12_pushes_2 (fun H locs S2 e2 hQ => ?_)
  have hX : ∀ i, i < 20 → S2 i = M0 g ad i := same_up hX e2 rfl
  refine lv_aload_n hx hb dX12_pushes_5 rfl (lv_at hl 0 rfl) ?_
  refine lv_iload_n hx hb dX12_pushes_6 rfl (lv_at hl 1 rfl) ?_
  refine lv_iload_n hx hb dX12_pushes_7 rfl (lv_at hl 2 rfl) ?_
  have c_3 : S2 0 = .inr (12, [.int 0, .ref (ad 1), .ref (ad 2), .ref (ad 3), .ref (ad 4), .ref (ad 5), .int 0, .int 0, .int 0, .int 0, .int 0, .long 0, .int 0, .int 0, .int 0, .int (-1), .ref (ad 6), .ref (ad 7), .ref (ad 8), .ref (ad 9), .ref (ad 10), .ref (ad 11), .ref (ad 12), .ref (ad 13), .ref (ad 14), .ref (ad 15), .int 0, .int 0, .ref (ad 16), .int 0, .int 0, .int 0, .int 0, .int 0, .ref (ad 17), .ref (ad 18), .int 0, .ref (ad 19)]) := (hX 0 (by decide))
  refine xcVi E hs hQ hml hl.1 0 (fX12_isPush l g ad hD S2 hX a1 a2) mX12_isPush q1922 (by decide) c_3 rfl rfl ⟨by decide, by decide⟩ ⟨by decide, by decide⟩ (by decide) rfl dX12_pushes_8 (fun r4 S4 H locs hp4 hQ _ => ?_)
  obtain ⟨rfl, rfl⟩ := hp4
  refine lv_if_ne (tgt := 17) hx hb dX12_pushes_11 (by decide) (fun k_5 => absurd k_5 (by decide)) (fun k_5 => ?_)
  refine lv_bipush (v := (-2)) hx hb dX12_pushes_14 (by decide) ?_
  exact xri E hr hlk hQ (rfl) dX12_pushes_16
set_option maxHeartbeats 4000000 in
set_option maxRecDepth 100000 in
theorem fX12_push (l : Launch) (g : GG) (ad : Nat → Nat) (hD : Dj ad 20) (S : SS) (hX : ∀ i, i < 20 → S i = M0 g ad i) (a1 : Int32) (a2 : Int32) (a3 : Int32) : Met l yX12_push (wG (.code yX12_push cX12_push 4 (some .int))) (Rm 3) (XPre g ad 20 S [.ref (ad 0), .int a1, .int a2, .int a3]) (va_Qi (fun r _ => r = (-2)) (QB g ad 20) (FA ad 20)) 0 0 (FA ad 20) := by
  refine xmet cX12_push "EbbWreckModel" (by decide) rfl (Nat.le_of_ble_eq_true rfl) (fun p e s m below meth c E hr hlk hml hQ ls hl => ?_)
  have hx := E.1
  have hb := E.2.1
  have hs : Sp ad 20 (FA ad 20) := Sp.fa hD
  have hl : lv_has ls 4 [(0, .ref (ad 0)), (1, .int a1), (2, .int a2), (3, .int a3)] := hl
  refine lv_aload_n hx hb dX12_push_0 rfl (lv_at hl 0 rfl) ?_
  refine lv_iconst (v := 0) hx hb dX12_push_1 (by decide) ?_
  have c_1 : S 0 = .inr (12, [.int 0, .ref (ad 1), .ref (ad 2), .ref (ad 3), .ref (ad 4), .ref (ad 5), .int 0, .int 0, .int 0, .int 0, .int 0, .long 0, .int 0, .int 0, .int 0, .int (-1), .ref (ad 6), .ref (ad 7), .ref (ad 8), .ref (ad 9), .ref (ad 10), .ref (ad 11), .ref (ad 12), .ref (ad 13), .ref (ad 14), .ref (ad 15), .int 0, .int 0, .ref (ad 16), .int 0, .int 0, .int 0, .int 0, .int 0, .ref (ad 17), .ref (ad 18), .int 0, .ref (ad 19)]) := (hX 0 (by decide))
  refine xputi E hs hQ 0 (by decide) c_1 rfl 0 (by decide) q1468 rfl rfl (Nat.le_of_ble_eq_true rfl) dX12_push_2 (fun H locs S2 e2 hQ => ?_)
  have hX : ∀ i, i < 20 → S2 i = M0 g ad i := same_up hX e2 rfl
  refine lv_aload_n hx hb dX12_push_5 rfl (lv_at hl 0 rfl) ?_
  refine lv_iload_n hx hb dX12_push_6 rfl (lv_at hl 1 rfl) ?_
  refine lv_iload_n hx hb dX12_push_7 rfl (lv_at hl 2 rfl) ?_
  have c_3 : S2 0 = .inr (12, [.int 0, .ref (ad 1), .ref (ad 2), .ref (ad 3), .ref (ad 4), .ref (ad 5), .int 0, .int 0, .int 0, .int 0, .int 0, .long 0, .int 0, .int 0, .int 0, .int (-1), .ref (ad 6), .ref (ad 7), .ref (ad 8), .ref (ad 9), .ref (ad 10), .ref (ad 11), .ref (ad 12), .ref (ad 13), .ref (ad 14), .ref (ad 15), .int 0, .int 0, .ref (ad 16), .int 0, .int 0, .int 0, .int 0, .int 0, .ref (ad 17), .ref (ad 18), .int 0, .ref (ad 19)]) := (hX 0 (by decide))
  refine xcVi E hs hQ hml hl.1 0 (fX12_isPush l g ad hD S2 hX a1 a2) mX12_isPush q1922 (by decide) c_3 rfl rfl ⟨by decide, by decide⟩ ⟨by decide, by decide⟩ (by decide) rfl dX12_push_8 (fun r4 S4 H locs hp4 hQ _ => ?_)
  obtain ⟨rfl, rfl⟩ := hp4
  refine lv_if_eq (tgt := 24) hx hb dX12_push_11 (by decide) (fun k_5 => ?_) (fun k_5 => absurd k_5 (by decide))
  refine lv_bipush (v := (-2)) hx hb dX12_push_24 (by decide) ?_
  exact xri E hr hlk hQ (rfl) dX12_push_26
set_option maxHeartbeats 4000000 in
set_option maxRecDepth 100000 in
theorem fX12_way (l : Launch) (g : GG) (ad : Nat → Nat) (hD : Dj ad 20) (S : SS) (hX : ∀ i, i < 20 → S i = M0 g ad i) (a1 : Int32) (a2 : Int32) (a3 : Int32) : Met l yX12_way (wG (.code yX12_way cX12_way 4 (some .int))) (Rm 3) (XPre g ad 20 S [.ref (ad 0), .int a1, .int a2, .int a3]) (va_Qi (fun r _ => r = (-2)) (QB g ad 20) (FA ad 20)) 0 0 (FA ad 20) := by
  refine xmet cX12_way "EbbWreckModel" (by decide) rfl (Nat.le_of_ble_eq_true rfl) (fun p e s m below meth c E hr hlk hml hQ ls hl => ?_)
  have hx := E.1
  have hb := E.2.1
  have hs : Sp ad 20 (FA ad 20) := Sp.fa hD
  have hl : lv_has ls 4 [(0, .ref (ad 0)), (1, .int a1), (2, .int a2), (3, .int a3)] := hl
  refine lv_aload_n hx hb dX12_way_0 rfl (lv_at hl 0 rfl) ?_
  refine lv_iconst (v := 0) hx hb dX12_way_1 (by decide) ?_
  have c_1 : S 0 = .inr (12, [.int 0, .ref (ad 1), .ref (ad 2), .ref (ad 3), .ref (ad 4), .ref (ad 5), .int 0, .int 0, .int 0, .int 0, .int 0, .long 0, .int 0, .int 0, .int 0, .int (-1), .ref (ad 6), .ref (ad 7), .ref (ad 8), .ref (ad 9), .ref (ad 10), .ref (ad 11), .ref (ad 12), .ref (ad 13), .ref (ad 14), .ref (ad 15), .int 0, .int 0, .ref (ad 16), .int 0, .int 0, .int 0, .int 0, .int 0, .ref (ad 17), .ref (ad 18), .int 0, .ref (ad 19)]) := (hX 0 (by decide))
  refine xputi E hs hQ 0 (by decide) c_1 rfl 0 (by decide) q1468 rfl rfl (Nat.le_of_ble_eq_true rfl) dX12_way_2 (fun H locs S2 e2 hQ => ?_)
  have hX : ∀ i, i < 20 → S2 i = M0 g ad i := same_up hX e2 rfl
  refine lv_aload_n hx hb dX12_way_5 rfl (lv_at hl 0 rfl) ?_
  refine lv_iload_n hx hb dX12_way_6 rfl (lv_at hl 1 rfl) ?_
  refine lv_iload_n hx hb dX12_way_7 rfl (lv_at hl 2 rfl) ?_
  have c_3 : S2 0 = .inr (12, [.int 0, .ref (ad 1), .ref (ad 2), .ref (ad 3), .ref (ad 4), .ref (ad 5), .int 0, .int 0, .int 0, .int 0, .int 0, .long 0, .int 0, .int 0, .int 0, .int (-1), .ref (ad 6), .ref (ad 7), .ref (ad 8), .ref (ad 9), .ref (ad 10), .ref (ad 11), .ref (ad 12), .ref (ad 13), .ref (ad 14), .ref (ad 15), .int 0, .int 0, .ref (ad 16), .int 0, .int 0, .int 0, .int 0, .int 0, .ref (ad 17), .ref (ad 18), .int 0, .ref (ad 19)]) := (hX 0 (by decide))
  refine xcVi E hs hQ hml hl.1 0 (fX12_isPush l g ad hD S2 hX a1 a2) mX12_isPush q1922 (by decide) c_3 rfl rfl ⟨by decide, by decide⟩ ⟨by decide, by decide⟩ (by decide) rfl dX12_way_8 (fun r4 S4 H locs hp4 hQ _ => ?_)
  obtain ⟨rfl, rfl⟩ := hp4
  refine lv_if_ne (tgt := 17) hx hb dX12_way_11 (by decide) (fun k_5 => absurd k_5 (by decide)) (fun k_5 => ?_)
  refine lv_bipush (v := (-2)) hx hb dX12_way_14 (by decide) ?_
  exact xri E hr hlk hQ (rfl) dX12_way_16
set_option maxHeartbeats 4000000 in
set_option maxRecDepth 100000 in
theorem fX12_soonest (l : Launch) (g : GG) (ad : Nat → Nat) (hD : Dj ad 20) (S : SS) (hX : ∀ i, i < 20 → S i = M0 g ad i) (a1 : Int32) (a2 : Int32) : Met l yX12_soonest (wG (.code yX12_soonest cX12_soonest 9 (some .int))) (Rm 3) (XPre g ad 20 S [.ref (ad 0), .int a1, .int a2]) (va_Qi (fun r _ => r = (-2)) (QB g ad 20) (FA ad 20)) 0 0 (FA ad 20) := by
  refine xmet cX12_soonest "EbbWreckModel" (by decide) rfl (Nat.le_of_ble_eq_true rfl) (fun p e s m below meth c E hr hlk hml hQ ls hl => ?_)
  have hx := E.1
  have hb := E.2.1
  have hs : Sp ad 20 (FA ad 20) := Sp.fa hD
  have hl : lv_has ls 9 [(0, .ref (ad 0)), (1, .int a1), (2, .int a2)] := hl
  refine lv_aload_n hx hb dX12_soonest_0 rfl (lv_at hl 0 rfl) ?_
  refine lv_iconst (v := 0) hx hb dX12_soonest_1 (by decide) ?_
  have c_1 : S 0 = .inr (12, [.int 0, .ref (ad 1), .ref (ad 2), .ref (ad 3), .ref (ad 4), .ref (ad 5), .int 0, .int 0, .int 0, .int 0, .int 0, .long 0, .int 0, .int 0, .int 0, .int (-1), .ref (ad 6), .ref (ad 7), .ref (ad 8), .ref (ad 9), .ref (ad 10), .ref (ad 11), .ref (ad 12), .ref (ad 13), .ref (ad 14), .ref (ad 15), .int 0, .int 0, .ref (ad 16), .int 0, .int 0, .int 0, .int 0, .int 0, .ref (ad 17), .ref (ad 18), .int 0, .ref (ad 19)]) := (hX 0 (by decide))
  refine xputi E hs hQ 0 (by decide) c_1 rfl 0 (by decide) q1468 rfl rfl (Nat.le_of_ble_eq_true rfl) dX12_soonest_2 (fun H locs S2 e2 hQ => ?_)
  have hX : ∀ i, i < 20 → S2 i = M0 g ad i := same_up hX e2 rfl
  refine lv_aload_n hx hb dX12_soonest_5 rfl (lv_at hl 0 rfl) ?_
  refine lv_iload_n hx hb dX12_soonest_6 rfl (lv_at hl 1 rfl) ?_
  refine lv_iload_n hx hb dX12_soonest_7 rfl (lv_at hl 2 rfl) ?_
  have c_3 : S2 0 = .inr (12, [.int 0, .ref (ad 1), .ref (ad 2), .ref (ad 3), .ref (ad 4), .ref (ad 5), .int 0, .int 0, .int 0, .int 0, .int 0, .long 0, .int 0, .int 0, .int 0, .int (-1), .ref (ad 6), .ref (ad 7), .ref (ad 8), .ref (ad 9), .ref (ad 10), .ref (ad 11), .ref (ad 12), .ref (ad 13), .ref (ad 14), .ref (ad 15), .int 0, .int 0, .ref (ad 16), .int 0, .int 0, .int 0, .int 0, .int 0, .ref (ad 17), .ref (ad 18), .int 0, .ref (ad 19)]) := (hX 0 (by decide))
  refine xcVi E hs hQ hml hl.1 0 (fX12_isPush l g ad hD S2 hX a1 a2) mX12_isPush q1922 (by decide) c_3 rfl rfl ⟨by decide, by decide⟩ ⟨by decide, by decide⟩ (by decide) rfl dX12_soonest_8 (fun r4 S4 H locs hp4 hQ _ => ?_)
  obtain ⟨rfl, rfl⟩ := hp4
  refine lv_if_ne (tgt := 17) hx hb dX12_soonest_11 (by decide) (fun k_5 => absurd k_5 (by decide)) (fun k_5 => ?_)
  refine lv_bipush (v := (-2)) hx hb dX12_soonest_14 (by decide) ?_
  exact xri E hr hlk hQ (rfl) dX12_soonest_16
set_option maxHeartbeats 4000000 in
set_option maxRecDepth 100000 in
theorem fX12_ward (l : Launch) (g : GG) (ad : Nat → Nat) (hD : Dj ad 20) (S : SS) (hX : ∀ i, i < 20 → S i = M0 g ad i) (a1 : Int32) (a2 : Int32) : Met l yX12_ward (wG (.code yX12_ward cX12_ward 7 (some .int))) (Rm 3) (XPre g ad 20 S [.ref (ad 0), .int a1, .int a2]) (va_Qi (fun r _ => r = (-2)) (QB g ad 20) (FA ad 20)) 0 0 (FA ad 20) := by
  refine xmet cX12_ward "EbbWreckModel" (by decide) rfl (Nat.le_of_ble_eq_true rfl) (fun p e s m below meth c E hr hlk hml hQ ls hl => ?_)
  have hx := E.1
  have hb := E.2.1
  have hs : Sp ad 20 (FA ad 20) := Sp.fa hD
  have hl : lv_has ls 7 [(0, .ref (ad 0)), (1, .int a1), (2, .int a2)] := hl
  refine lv_aload_n hx hb dX12_ward_0 rfl (lv_at hl 0 rfl) ?_
  refine lv_iconst (v := 0) hx hb dX12_ward_1 (by decide) ?_
  have c_1 : S 0 = .inr (12, [.int 0, .ref (ad 1), .ref (ad 2), .ref (ad 3), .ref (ad 4), .ref (ad 5), .int 0, .int 0, .int 0, .int 0, .int 0, .long 0, .int 0, .int 0, .int 0, .int (-1), .ref (ad 6), .ref (ad 7), .ref (ad 8), .ref (ad 9), .ref (ad 10), .ref (ad 11), .ref (ad 12), .ref (ad 13), .ref (ad 14), .ref (ad 15), .int 0, .int 0, .ref (ad 16), .int 0, .int 0, .int 0, .int 0, .int 0, .ref (ad 17), .ref (ad 18), .int 0, .ref (ad 19)]) := (hX 0 (by decide))
  refine xputi E hs hQ 0 (by decide) c_1 rfl 0 (by decide) q1468 rfl rfl (Nat.le_of_ble_eq_true rfl) dX12_ward_2 (fun H locs S2 e2 hQ => ?_)
  have hX : ∀ i, i < 20 → S2 i = M0 g ad i := same_up hX e2 rfl
  refine lv_aload_n hx hb dX12_ward_5 rfl (lv_at hl 0 rfl) ?_
  refine lv_iload_n hx hb dX12_ward_6 rfl (lv_at hl 1 rfl) ?_
  refine lv_iload_n hx hb dX12_ward_7 rfl (lv_at hl 2 rfl) ?_
  have c_3 : S2 0 = .inr (12, [.int 0, .ref (ad 1), .ref (ad 2), .ref (ad 3), .ref (ad 4), .ref (ad 5), .int 0, .int 0, .int 0, .int 0, .int 0, .long 0, .int 0, .int 0, .int 0, .int (-1), .ref (ad 6), .ref (ad 7), .ref (ad 8), .ref (ad 9), .ref (ad 10), .ref (ad 11), .ref (ad 12), .ref (ad 13), .ref (ad 14), .ref (ad 15), .int 0, .int 0, .ref (ad 16), .int 0, .int 0, .int 0, .int 0, .int 0, .ref (ad 17), .ref (ad 18), .int 0, .ref (ad 19)]) := (hX 0 (by decide))
  refine xcVi E hs hQ hml hl.1 0 (fX12_isPush l g ad hD S2 hX a1 a2) mX12_isPush q1922 (by decide) c_3 rfl rfl ⟨by decide, by decide⟩ ⟨by decide, by decide⟩ (by decide) rfl dX12_ward_8 (fun r4 S4 H locs hp4 hQ _ => ?_)
  obtain ⟨rfl, rfl⟩ := hp4
  refine lv_if_ne (tgt := 17) hx hb dX12_ward_11 (by decide) (fun k_5 => absurd k_5 (by decide)) (fun k_5 => ?_)
  refine lv_bipush (v := (-2)) hx hb dX12_ward_14 (by decide) ?_
  exact xri E hr hlk hQ (rfl) dX12_ward_16
set_option maxHeartbeats 4000000 in
set_option maxRecDepth 100000 in
theorem fX12_all (l : Launch) (g : GG) (ad : Nat → Nat) (hD : Dj ad 20) (S : SS) (hX : ∀ i, i < 20 → S i = M0 g ad i) (a1 : Int32) : Met l yX12_all (wG (.code yX12_all cX12_all 4 (some .int))) (Rm 2) (XPre g ad 20 S [.ref (ad 0), .int a1]) (va_Qi (fun r _ => r = (-2)) (QB g ad 20) (FA ad 20)) 0 0 (FA ad 20) := by
  refine xmet cX12_all "EbbWreckModel" (by decide) rfl (Nat.le_of_ble_eq_true rfl) (fun p e s m below meth c E hr hlk hml hQ ls hl => ?_)
  have hx := E.1
  have hb := E.2.1
  have hs : Sp ad 20 (FA ad 20) := Sp.fa hD
  have hl : lv_has ls 4 [(0, .ref (ad 0)), (1, .int a1)] := hl
  refine lv_aload_n hx hb dX12_all_0 rfl (lv_at hl 0 rfl) ?_
  refine lv_iconst (v := 0) hx hb dX12_all_1 (by decide) ?_
  have c_1 : S 0 = .inr (12, [.int 0, .ref (ad 1), .ref (ad 2), .ref (ad 3), .ref (ad 4), .ref (ad 5), .int 0, .int 0, .int 0, .int 0, .int 0, .long 0, .int 0, .int 0, .int 0, .int (-1), .ref (ad 6), .ref (ad 7), .ref (ad 8), .ref (ad 9), .ref (ad 10), .ref (ad 11), .ref (ad 12), .ref (ad 13), .ref (ad 14), .ref (ad 15), .int 0, .int 0, .ref (ad 16), .int 0, .int 0, .int 0, .int 0, .int 0, .ref (ad 17), .ref (ad 18), .int 0, .ref (ad 19)]) := (hX 0 (by decide))
  refine xputi E hs hQ 0 (by decide) c_1 rfl 0 (by decide) q1468 rfl rfl (Nat.le_of_ble_eq_true rfl) dX12_all_2 (fun H locs S2 e2 hQ => ?_)
  have hX : ∀ i, i < 20 → S2 i = M0 g ad i := same_up hX e2 rfl
  refine lv_aload_n hx hb dX12_all_5 rfl (lv_at hl 0 rfl) ?_
  refine lv_iload_n hx hb dX12_all_6 rfl (lv_at hl 1 rfl) ?_
  have c_3 : S2 0 = .inr (12, [.int 0, .ref (ad 1), .ref (ad 2), .ref (ad 3), .ref (ad 4), .ref (ad 5), .int 0, .int 0, .int 0, .int 0, .int 0, .long 0, .int 0, .int 0, .int 0, .int (-1), .ref (ad 6), .ref (ad 7), .ref (ad 8), .ref (ad 9), .ref (ad 10), .ref (ad 11), .ref (ad 12), .ref (ad 13), .ref (ad 14), .ref (ad 15), .int 0, .int 0, .ref (ad 16), .int 0, .int 0, .int 0, .int 0, .int 0, .ref (ad 17), .ref (ad 18), .int 0, .ref (ad 19)]) := (hX 0 (by decide))
  refine xcVi E hs hQ hml hl.1 0 (fX12_isParty l g ad hD S2 hX a1) mX12_isParty q1874 (by decide) c_3 rfl rfl ⟨by decide, by decide⟩ ⟨by decide, by decide⟩ (by decide) rfl dX12_all_7 (fun r4 S4 H locs hp4 hQ _ => ?_)
  obtain ⟨rfl, rfl⟩ := hp4
  refine lv_if_ne (tgt := 16) hx hb dX12_all_10 (by decide) (fun k_5 => absurd k_5 (by decide)) (fun k_5 => ?_)
  refine lv_bipush (v := (-2)) hx hb dX12_all_13 (by decide) ?_
  exact xri E hr hlk hQ (rfl) dX12_all_15
set_option maxHeartbeats 4000000 in
set_option maxRecDepth 100000 in
theorem fX12_eddy (l : Launch) (g : GG) (ad : Nat → Nat) (hD : Dj ad 20) (S : SS) (hX : ∀ i, i < 20 → S i = M0 g ad i) (a1 : Int32) : Met l yX12_eddy (wG (.code yX12_eddy cX12_eddy 4 (some .int))) (Rm 2) (XPre g ad 20 S [.ref (ad 0), .int a1]) (va_Qi (fun r _ => r = (-2)) (QB g ad 20) (FA ad 20)) 0 0 (FA ad 20) := by
  refine xmet cX12_eddy "EbbWreckModel" (by decide) rfl (Nat.le_of_ble_eq_true rfl) (fun p e s m below meth c E hr hlk hml hQ ls hl => ?_)
  have hx := E.1
  have hb := E.2.1
  have hs : Sp ad 20 (FA ad 20) := Sp.fa hD
  have hl : lv_has ls 4 [(0, .ref (ad 0)), (1, .int a1)] := hl
  refine lv_aload_n hx hb dX12_eddy_0 rfl (lv_at hl 0 rfl) ?_
  refine lv_iconst (v := 0) hx hb dX12_eddy_1 (by decide) ?_
  have c_1 : S 0 = .inr (12, [.int 0, .ref (ad 1), .ref (ad 2), .ref (ad 3), .ref (ad 4), .ref (ad 5), .int 0, .int 0, .int 0, .int 0, .int 0, .long 0, .int 0, .int 0, .int 0, .int (-1), .ref (ad 6), .ref (ad 7), .ref (ad 8), .ref (ad 9), .ref (ad 10), .ref (ad 11), .ref (ad 12), .ref (ad 13), .ref (ad 14), .ref (ad 15), .int 0, .int 0, .ref (ad 16), .int 0, .int 0, .int 0, .int 0, .int 0, .ref (ad 17), .ref (ad 18), .int 0, .ref (ad 19)]) := (hX 0 (by decide))
  refine xputi E hs hQ 0 (by decide) c_1 rfl 0 (by decide) q1468 rfl rfl (Nat.le_of_ble_eq_true rfl) dX12_eddy_2 (fun H locs S2 e2 hQ => ?_)
  have hX : ∀ i, i < 20 → S2 i = M0 g ad i := same_up hX e2 rfl
  refine lv_aload_n hx hb dX12_eddy_5 rfl (lv_at hl 0 rfl) ?_
  refine lv_iload_n hx hb dX12_eddy_6 rfl (lv_at hl 1 rfl) ?_
  refine lv_i2l hx hb dX12_eddy_7 rfl ?_
  have c_3 : S2 0 = .inr (12, [.int 0, .ref (ad 1), .ref (ad 2), .ref (ad 3), .ref (ad 4), .ref (ad 5), .int 0, .int 0, .int 0, .int 0, .int 0, .long 0, .int 0, .int 0, .int 0, .int (-1), .ref (ad 6), .ref (ad 7), .ref (ad 8), .ref (ad 9), .ref (ad 10), .ref (ad 11), .ref (ad 12), .ref (ad 13), .ref (ad 14), .ref (ad 15), .int 0, .int 0, .ref (ad 16), .int 0, .int 0, .int 0, .int 0, .int 0, .ref (ad 17), .ref (ad 18), .int 0, .ref (ad 19)]) := (hX 0 (by decide))
  refine xcVi E hs hQ hml hl.1 0 (fX12_isCell l g ad hD S2 hX a1.toInt64) mX12_isCell q1750 (by decide) c_3 rfl rfl ⟨by decide, by decide⟩ ⟨by decide, by decide⟩ (by decide) rfl dX12_eddy_8 (fun r4 S4 H locs hp4 hQ _ => ?_)
  obtain ⟨rfl, rfl⟩ := hp4
  refine lv_if_ne (tgt := 17) hx hb dX12_eddy_11 (by decide) (fun k_5 => absurd k_5 (by decide)) (fun k_5 => ?_)
  refine lv_bipush (v := (-2)) hx hb dX12_eddy_14 (by decide) ?_
  exact xri E hr hlk hQ (rfl) dX12_eddy_16
set_option maxHeartbeats 4000000 in
set_option maxRecDepth 100000 in
theorem fX12_stuck (l : Launch) (g : GG) (ad : Nat → Nat) (hD : Dj ad 20) (S : SS) (hX : ∀ i, i < 20 → S i = M0 g ad i) : Met l yX12_stuck (wG (.code yX12_stuck cX12_stuck 3 (some .int))) (Rm 1) (XPre g ad 20 S [.ref (ad 0)]) (va_Qi (fun r _ => r = (-2)) (QB g ad 20) (FA ad 20)) 0 0 (FA ad 20) := by
  refine xmet cX12_stuck "EbbWreckModel" (by decide) rfl (Nat.le_of_ble_eq_true rfl) (fun p e s m below meth c E hr hlk hml hQ ls hl => ?_)
  have hx := E.1
  have hb := E.2.1
  have hs : Sp ad 20 (FA ad 20) := Sp.fa hD
  have hl : lv_has ls 3 [(0, .ref (ad 0))] := hl
  refine lv_aload_n hx hb dX12_stuck_0 rfl (lv_at hl 0 rfl) ?_
  refine lv_iconst (v := 0) hx hb dX12_stuck_1 (by decide) ?_
  have c_1 : S 0 = .inr (12, [.int 0, .ref (ad 1), .ref (ad 2), .ref (ad 3), .ref (ad 4), .ref (ad 5), .int 0, .int 0, .int 0, .int 0, .int 0, .long 0, .int 0, .int 0, .int 0, .int (-1), .ref (ad 6), .ref (ad 7), .ref (ad 8), .ref (ad 9), .ref (ad 10), .ref (ad 11), .ref (ad 12), .ref (ad 13), .ref (ad 14), .ref (ad 15), .int 0, .int 0, .ref (ad 16), .int 0, .int 0, .int 0, .int 0, .int 0, .ref (ad 17), .ref (ad 18), .int 0, .ref (ad 19)]) := (hX 0 (by decide))
  refine xputi E hs hQ 0 (by decide) c_1 rfl 0 (by decide) q1468 rfl rfl (Nat.le_of_ble_eq_true rfl) dX12_stuck_2 (fun H locs S2 e2 hQ => ?_)
  have hX : ∀ i, i < 20 → S2 i = M0 g ad i := same_up hX e2 rfl
  refine lv_aload_n hx hb dX12_stuck_5 rfl (lv_at hl 0 rfl) ?_
  have c_3 : S2 0 = .inr (12, [.int 0, .ref (ad 1), .ref (ad 2), .ref (ad 3), .ref (ad 4), .ref (ad 5), .int 0, .int 0, .int 0, .int 0, .int 0, .long 0, .int 0, .int 0, .int 0, .int (-1), .ref (ad 6), .ref (ad 7), .ref (ad 8), .ref (ad 9), .ref (ad 10), .ref (ad 11), .ref (ad 12), .ref (ad 13), .ref (ad 14), .ref (ad 15), .int 0, .int 0, .ref (ad 16), .int 0, .int 0, .int 0, .int 0, .int 0, .ref (ad 17), .ref (ad 18), .int 0, .ref (ad 19)]) := (hX 0 (by decide))
  refine xcVi E hs hQ hml hl.1 0 (fX12_isShore l g ad hD S2 hX ) mX12_isShore q1782 (by decide) c_3 rfl rfl ⟨by decide, by decide⟩ ⟨by decide, by decide⟩ (by decide) rfl dX12_stuck_6 (fun r4 S4 H locs hp4 hQ _ => ?_)
  obtain ⟨rfl, rfl⟩ := hp4
  refine lv_if_ne (tgt := 15) hx hb dX12_stuck_9 (by decide) (fun k_5 => absurd k_5 (by decide)) (fun k_5 => ?_)
  refine lv_bipush (v := (-2)) hx hb dX12_stuck_12 (by decide) ?_
  exact xri E hr hlk hQ (rfl) dX12_stuck_14
set_option maxHeartbeats 4000000 in
set_option maxRecDepth 100000 in
theorem fX12_drop (l : Launch) (g : GG) (ad : Nat → Nat) (hD : Dj ad 20) (S : SS) (hX : ∀ i, i < 20 → S i = M0 g ad i) (a1 : Int32) (a2 : Int32) : Met l yX12_drop (wG (.code yX12_drop cX12_drop 3 (some .int))) (Rm 2) (XPre g ad 20 S [.ref (ad 0), .int a1, .int a2]) (va_Qi (fun r _ => r = (-2)) (QB g ad 20) (FA ad 20)) 0 0 (FA ad 20) := by
  refine xmet cX12_drop "EbbWreckModel" (by decide) rfl (Nat.le_of_ble_eq_true rfl) (fun p e s m below meth c E hr hlk hml hQ ls hl => ?_)
  have hx := E.1
  have hb := E.2.1
  have hs : Sp ad 20 (FA ad 20) := Sp.fa hD
  have hl : lv_has ls 3 [(0, .ref (ad 0)), (1, .int a1), (2, .int a2)] := hl
  refine lv_aload_n hx hb dX12_drop_0 rfl (lv_at hl 0 rfl) ?_
  refine lv_iconst (v := 0) hx hb dX12_drop_1 (by decide) ?_
  have c_1 : S 0 = .inr (12, [.int 0, .ref (ad 1), .ref (ad 2), .ref (ad 3), .ref (ad 4), .ref (ad 5), .int 0, .int 0, .int 0, .int 0, .int 0, .long 0, .int 0, .int 0, .int 0, .int (-1), .ref (ad 6), .ref (ad 7), .ref (ad 8), .ref (ad 9), .ref (ad 10), .ref (ad 11), .ref (ad 12), .ref (ad 13), .ref (ad 14), .ref (ad 15), .int 0, .int 0, .ref (ad 16), .int 0, .int 0, .int 0, .int 0, .int 0, .ref (ad 17), .ref (ad 18), .int 0, .ref (ad 19)]) := (hX 0 (by decide))
  refine xputi E hs hQ 0 (by decide) c_1 rfl 0 (by decide) q1468 rfl rfl (Nat.le_of_ble_eq_true rfl) dX12_drop_2 (fun H locs S2 e2 hQ => ?_)
  have hX : ∀ i, i < 20 → S2 i = M0 g ad i := same_up hX e2 rfl
  refine lv_aload_n hx hb dX12_drop_5 rfl (lv_at hl 0 rfl) ?_
  refine lv_iload_n hx hb dX12_drop_6 rfl (lv_at hl 1 rfl) ?_
  have c_3 : S2 0 = .inr (12, [.int 0, .ref (ad 1), .ref (ad 2), .ref (ad 3), .ref (ad 4), .ref (ad 5), .int 0, .int 0, .int 0, .int 0, .int 0, .long 0, .int 0, .int 0, .int 0, .int (-1), .ref (ad 6), .ref (ad 7), .ref (ad 8), .ref (ad 9), .ref (ad 10), .ref (ad 11), .ref (ad 12), .ref (ad 13), .ref (ad 14), .ref (ad 15), .int 0, .int 0, .ref (ad 16), .int 0, .int 0, .int 0, .int 0, .int 0, .ref (ad 17), .ref (ad 18), .int 0, .ref (ad 19)]) := (hX 0 (by decide))
  refine xcVi E hs hQ hml hl.1 0 (fX12_isParty l g ad hD S2 hX a1) mX12_isParty q1874 (by decide) c_3 rfl rfl ⟨by decide, by decide⟩ ⟨by decide, by decide⟩ (by decide) rfl dX12_drop_7 (fun r4 S4 H locs hp4 hQ _ => ?_)
  obtain ⟨rfl, rfl⟩ := hp4
  refine lv_if_eq (tgt := 34) hx hb dX12_drop_10 (by decide) (fun k_5 => ?_) (fun k_5 => absurd k_5 (by decide))
  refine lv_bipush (v := (-2)) hx hb dX12_drop_34 (by decide) ?_
  exact xri E hr hlk hQ (rfl) dX12_drop_36
set_option maxHeartbeats 4000000 in
set_option maxRecDepth 100000 in
theorem fX12_drops (l : Launch) (g : GG) (ad : Nat → Nat) (hD : Dj ad 20) (S : SS) (hX : ∀ i, i < 20 → S i = M0 g ad i) (a1 : Int32) : Met l yX12_drops (wG (.code yX12_drops cX12_drops 6 (some .int))) (Rm 2) (XPre g ad 20 S [.ref (ad 0), .int a1]) (va_Qi (fun r _ => r = (-2)) (QB g ad 20) (FA ad 20)) 0 0 (FA ad 20) := by
  refine xmet cX12_drops "EbbWreckModel" (by decide) rfl (Nat.le_of_ble_eq_true rfl) (fun p e s m below meth c E hr hlk hml hQ ls hl => ?_)
  have hx := E.1
  have hb := E.2.1
  have hs : Sp ad 20 (FA ad 20) := Sp.fa hD
  have hl : lv_has ls 6 [(0, .ref (ad 0)), (1, .int a1)] := hl
  refine lv_aload_n hx hb dX12_drops_0 rfl (lv_at hl 0 rfl) ?_
  refine lv_iconst (v := 0) hx hb dX12_drops_1 (by decide) ?_
  have c_1 : S 0 = .inr (12, [.int 0, .ref (ad 1), .ref (ad 2), .ref (ad 3), .ref (ad 4), .ref (ad 5), .int 0, .int 0, .int 0, .int 0, .int 0, .long 0, .int 0, .int 0, .int 0, .int (-1), .ref (ad 6), .ref (ad 7), .ref (ad 8), .ref (ad 9), .ref (ad 10), .ref (ad 11), .ref (ad 12), .ref (ad 13), .ref (ad 14), .ref (ad 15), .int 0, .int 0, .ref (ad 16), .int 0, .int 0, .int 0, .int 0, .int 0, .ref (ad 17), .ref (ad 18), .int 0, .ref (ad 19)]) := (hX 0 (by decide))
  refine xputi E hs hQ 0 (by decide) c_1 rfl 0 (by decide) q1468 rfl rfl (Nat.le_of_ble_eq_true rfl) dX12_drops_2 (fun H locs S2 e2 hQ => ?_)
  have hX : ∀ i, i < 20 → S2 i = M0 g ad i := same_up hX e2 rfl
  refine lv_aload_n hx hb dX12_drops_5 rfl (lv_at hl 0 rfl) ?_
  refine lv_iload_n hx hb dX12_drops_6 rfl (lv_at hl 1 rfl) ?_
  have c_3 : S2 0 = .inr (12, [.int 0, .ref (ad 1), .ref (ad 2), .ref (ad 3), .ref (ad 4), .ref (ad 5), .int 0, .int 0, .int 0, .int 0, .int 0, .long 0, .int 0, .int 0, .int 0, .int (-1), .ref (ad 6), .ref (ad 7), .ref (ad 8), .ref (ad 9), .ref (ad 10), .ref (ad 11), .ref (ad 12), .ref (ad 13), .ref (ad 14), .ref (ad 15), .int 0, .int 0, .ref (ad 16), .int 0, .int 0, .int 0, .int 0, .int 0, .ref (ad 17), .ref (ad 18), .int 0, .ref (ad 19)]) := (hX 0 (by decide))
  refine xcVi E hs hQ hml hl.1 0 (fX12_isParty l g ad hD S2 hX a1) mX12_isParty q1874 (by decide) c_3 rfl rfl ⟨by decide, by decide⟩ ⟨by decide, by decide⟩ (by decide) rfl dX12_drops_7 (fun r4 S4 H locs hp4 hQ _ => ?_)
  obtain ⟨rfl, rfl⟩ := hp4
  refine lv_if_ne (tgt := 16) hx hb dX12_drops_10 (by decide) (fun k_5 => absurd k_5 (by decide)) (fun k_5 => ?_)
  refine lv_bipush (v := (-2)) hx hb dX12_drops_13 (by decide) ?_
  exact xri E hr hlk hQ (rfl) dX12_drops_15
set_option maxHeartbeats 4000000 in
set_option maxRecDepth 100000 in
theorem fX12_origins (l : Launch) (g : GG) (ad : Nat → Nat) (hD : Dj ad 20) (S : SS) (hX : ∀ i, i < 20 → S i = M0 g ad i) (a1 : Int32) (a2 : Int32) (a3 : Int32) : Met l yX12_origins (wG (.code yX12_origins cX12_origins 6 (some .int))) (Rm 2) (XPre g ad 20 S [.ref (ad 0), .int a1, .int a2, .int a3]) (va_Qi (fun r _ => r = (-2)) (QB g ad 20) (FA ad 20)) 0 0 (FA ad 20) := by
  refine xmet cX12_origins "EbbWreckModel" (by decide) rfl (Nat.le_of_ble_eq_true rfl) (fun p e s m below meth c E hr hlk hml hQ ls hl => ?_)
  have hx := E.1
  have hb := E.2.1
  have hs : Sp ad 20 (FA ad 20) := Sp.fa hD
  have hl : lv_has ls 6 [(0, .ref (ad 0)), (1, .int a1), (2, .int a2), (3, .int a3)] := hl
  refine lv_aload_n hx hb dX12_origins_0 rfl (lv_at hl 0 rfl) ?_
  refine lv_iconst (v := 0) hx hb dX12_origins_1 (by decide) ?_
  have c_1 : S 0 = .inr (12, [.int 0, .ref (ad 1), .ref (ad 2), .ref (ad 3), .ref (ad 4), .ref (ad 5), .int 0, .int 0, .int 0, .int 0, .int 0, .long 0, .int 0, .int 0, .int 0, .int (-1), .ref (ad 6), .ref (ad 7), .ref (ad 8), .ref (ad 9), .ref (ad 10), .ref (ad 11), .ref (ad 12), .ref (ad 13), .ref (ad 14), .ref (ad 15), .int 0, .int 0, .ref (ad 16), .int 0, .int 0, .int 0, .int 0, .int 0, .ref (ad 17), .ref (ad 18), .int 0, .ref (ad 19)]) := (hX 0 (by decide))
  refine xputi E hs hQ 0 (by decide) c_1 rfl 0 (by decide) q1468 rfl rfl (Nat.le_of_ble_eq_true rfl) dX12_origins_2 (fun H locs S2 e2 hQ => ?_)
  have hX : ∀ i, i < 20 → S2 i = M0 g ad i := same_up hX e2 rfl
  refine lv_aload_n hx hb dX12_origins_5 rfl (lv_at hl 0 rfl) ?_
  refine lv_iload_n hx hb dX12_origins_6 rfl (lv_at hl 3 rfl) ?_
  refine lv_i2l hx hb dX12_origins_7 rfl ?_
  have c_3 : S2 0 = .inr (12, [.int 0, .ref (ad 1), .ref (ad 2), .ref (ad 3), .ref (ad 4), .ref (ad 5), .int 0, .int 0, .int 0, .int 0, .int 0, .long 0, .int 0, .int 0, .int 0, .int (-1), .ref (ad 6), .ref (ad 7), .ref (ad 8), .ref (ad 9), .ref (ad 10), .ref (ad 11), .ref (ad 12), .ref (ad 13), .ref (ad 14), .ref (ad 15), .int 0, .int 0, .ref (ad 16), .int 0, .int 0, .int 0, .int 0, .int 0, .ref (ad 17), .ref (ad 18), .int 0, .ref (ad 19)]) := (hX 0 (by decide))
  refine xcVi E hs hQ hml hl.1 0 (fX12_isCell l g ad hD S2 hX a3.toInt64) mX12_isCell q1750 (by decide) c_3 rfl rfl ⟨by decide, by decide⟩ ⟨by decide, by decide⟩ (by decide) rfl dX12_origins_8 (fun r4 S4 H locs hp4 hQ _ => ?_)
  obtain ⟨rfl, rfl⟩ := hp4
  refine lv_if_eq (tgt := 39) hx hb dX12_origins_11 (by decide) (fun k_5 => ?_) (fun k_5 => absurd k_5 (by decide))
  refine lv_bipush (v := (-2)) hx hb dX12_origins_39 (by decide) ?_
  exact xri E hr hlk hQ (rfl) dX12_origins_41
set_option maxHeartbeats 4000000 in
set_option maxRecDepth 100000 in
theorem fX12_when (l : Launch) (g : GG) (ad : Nat → Nat) (hD : Dj ad 20) (S : SS) (hX : ∀ i, i < 20 → S i = M0 g ad i) (a1 : Int32) (a2 : Int32) (a3 : Int32) : Met l yX12_when (wG (.code yX12_when cX12_when 5 (some .int))) (Rm 2) (XPre g ad 20 S [.ref (ad 0), .int a1, .int a2, .int a3]) (va_Qi (fun r _ => r = (-2)) (QB g ad 20) (FA ad 20)) 0 0 (FA ad 20) := by
  refine xmet cX12_when "EbbWreckModel" (by decide) rfl (Nat.le_of_ble_eq_true rfl) (fun p e s m below meth c E hr hlk hml hQ ls hl => ?_)
  have hx := E.1
  have hb := E.2.1
  have hs : Sp ad 20 (FA ad 20) := Sp.fa hD
  have hl : lv_has ls 5 [(0, .ref (ad 0)), (1, .int a1), (2, .int a2), (3, .int a3)] := hl
  refine lv_aload_n hx hb dX12_when_0 rfl (lv_at hl 0 rfl) ?_
  refine lv_iconst (v := 0) hx hb dX12_when_1 (by decide) ?_
  have c_1 : S 0 = .inr (12, [.int 0, .ref (ad 1), .ref (ad 2), .ref (ad 3), .ref (ad 4), .ref (ad 5), .int 0, .int 0, .int 0, .int 0, .int 0, .long 0, .int 0, .int 0, .int 0, .int (-1), .ref (ad 6), .ref (ad 7), .ref (ad 8), .ref (ad 9), .ref (ad 10), .ref (ad 11), .ref (ad 12), .ref (ad 13), .ref (ad 14), .ref (ad 15), .int 0, .int 0, .ref (ad 16), .int 0, .int 0, .int 0, .int 0, .int 0, .ref (ad 17), .ref (ad 18), .int 0, .ref (ad 19)]) := (hX 0 (by decide))
  refine xputi E hs hQ 0 (by decide) c_1 rfl 0 (by decide) q1468 rfl rfl (Nat.le_of_ble_eq_true rfl) dX12_when_2 (fun H locs S2 e2 hQ => ?_)
  have hX : ∀ i, i < 20 → S2 i = M0 g ad i := same_up hX e2 rfl
  refine lv_aload_n hx hb dX12_when_5 rfl (lv_at hl 0 rfl) ?_
  refine lv_iload_n hx hb dX12_when_6 rfl (lv_at hl 1 rfl) ?_
  refine lv_i2l hx hb dX12_when_7 rfl ?_
  have c_3 : S2 0 = .inr (12, [.int 0, .ref (ad 1), .ref (ad 2), .ref (ad 3), .ref (ad 4), .ref (ad 5), .int 0, .int 0, .int 0, .int 0, .int 0, .long 0, .int 0, .int 0, .int 0, .int (-1), .ref (ad 6), .ref (ad 7), .ref (ad 8), .ref (ad 9), .ref (ad 10), .ref (ad 11), .ref (ad 12), .ref (ad 13), .ref (ad 14), .ref (ad 15), .int 0, .int 0, .ref (ad 16), .int 0, .int 0, .int 0, .int 0, .int 0, .ref (ad 17), .ref (ad 18), .int 0, .ref (ad 19)]) := (hX 0 (by decide))
  refine xcVi E hs hQ hml hl.1 0 (fX12_isCell l g ad hD S2 hX a1.toInt64) mX12_isCell q1750 (by decide) c_3 rfl rfl ⟨by decide, by decide⟩ ⟨by decide, by decide⟩ (by decide) rfl dX12_when_8 (fun r4 S4 H locs hp4 hQ _ => ?_)
  obtain ⟨rfl, rfl⟩ := hp4
  refine lv_if_eq (tgt := 35) hx hb dX12_when_11 (by decide) (fun k_5 => ?_) (fun k_5 => absurd k_5 (by decide))
  refine lv_bipush (v := (-2)) hx hb dX12_when_35 (by decide) ?_
  exact xri E hr hlk hQ (rfl) dX12_when_37
set_option maxHeartbeats 4000000 in
set_option maxRecDepth 100000 in
theorem fX12_share (l : Launch) (g : GG) (ad : Nat → Nat) (hD : Dj ad 20) (S : SS) (hX : ∀ i, i < 20 → S i = M0 g ad i) (a1 : Int32) : Met l yX12_share (wG (.code yX12_share cX12_share 2 (some .int))) (Rm 2) (XPre g ad 20 S [.ref (ad 0), .int a1]) (va_Qi (fun r _ => r = (-2)) (QB g ad 20) (FA ad 20)) 0 0 (FA ad 20) := by
  refine xmet cX12_share "EbbWreckModel" (by decide) rfl (Nat.le_of_ble_eq_true rfl) (fun p e s m below meth c E hr hlk hml hQ ls hl => ?_)
  have hx := E.1
  have hb := E.2.1
  have hs : Sp ad 20 (FA ad 20) := Sp.fa hD
  have hl : lv_has ls 2 [(0, .ref (ad 0)), (1, .int a1)] := hl
  refine lv_aload_n hx hb dX12_share_0 rfl (lv_at hl 0 rfl) ?_
  refine lv_iconst (v := 0) hx hb dX12_share_1 (by decide) ?_
  have c_1 : S 0 = .inr (12, [.int 0, .ref (ad 1), .ref (ad 2), .ref (ad 3), .ref (ad 4), .ref (ad 5), .int 0, .int 0, .int 0, .int 0, .int 0, .long 0, .int 0, .int 0, .int 0, .int (-1), .ref (ad 6), .ref (ad 7), .ref (ad 8), .ref (ad 9), .ref (ad 10), .ref (ad 11), .ref (ad 12), .ref (ad 13), .ref (ad 14), .ref (ad 15), .int 0, .int 0, .ref (ad 16), .int 0, .int 0, .int 0, .int 0, .int 0, .ref (ad 17), .ref (ad 18), .int 0, .ref (ad 19)]) := (hX 0 (by decide))
  refine xputi E hs hQ 0 (by decide) c_1 rfl 0 (by decide) q1468 rfl rfl (Nat.le_of_ble_eq_true rfl) dX12_share_2 (fun H locs S2 e2 hQ => ?_)
  have hX : ∀ i, i < 20 → S2 i = M0 g ad i := same_up hX e2 rfl
  refine lv_aload_n hx hb dX12_share_5 rfl (lv_at hl 0 rfl) ?_
  refine lv_iload_n hx hb dX12_share_6 rfl (lv_at hl 1 rfl) ?_
  have c_3 : S2 0 = .inr (12, [.int 0, .ref (ad 1), .ref (ad 2), .ref (ad 3), .ref (ad 4), .ref (ad 5), .int 0, .int 0, .int 0, .int 0, .int 0, .long 0, .int 0, .int 0, .int 0, .int (-1), .ref (ad 6), .ref (ad 7), .ref (ad 8), .ref (ad 9), .ref (ad 10), .ref (ad 11), .ref (ad 12), .ref (ad 13), .ref (ad 14), .ref (ad 15), .int 0, .int 0, .ref (ad 16), .int 0, .int 0, .int 0, .int 0, .int 0, .ref (ad 17), .ref (ad 18), .int 0, .ref (ad 19)]) := (hX 0 (by decide))
  refine xcVi E hs hQ hml hl.1 0 (fX12_isSitter l g ad hD S2 hX a1) mX12_isSitter q1816 (by decide) c_3 rfl rfl ⟨by decide, by decide⟩ ⟨by decide, by decide⟩ (by decide) rfl dX12_share_7 (fun r4 S4 H locs hp4 hQ _ => ?_)
  obtain ⟨rfl, rfl⟩ := hp4
  refine lv_if_ne (tgt := 16) hx hb dX12_share_10 (by decide) (fun k_5 => absurd k_5 (by decide)) (fun k_5 => ?_)
  refine lv_bipush (v := (-2)) hx hb dX12_share_13 (by decide) ?_
  exact xri E hr hlk hQ (rfl) dX12_share_15
set_option maxHeartbeats 4000000 in
set_option maxRecDepth 100000 in
theorem fX12_seat (l : Launch) (g : GG) (ad : Nat → Nat) (hD : Dj ad 20) (S : SS) (hX : ∀ i, i < 20 → S i = M0 g ad i) (a1 : Int32) (a2 : Int32) : Met l yX12_seat (wG (.code yX12_seat cX12_seat 3 (some .int))) (Rm 2) (XPre g ad 20 S [.ref (ad 0), .int a1, .int a2]) (va_Qi (fun r _ => r = (-2)) (QB g ad 20) (FA ad 20)) 0 0 (FA ad 20) := by
  refine xmet cX12_seat "EbbWreckModel" (by decide) rfl (Nat.le_of_ble_eq_true rfl) (fun p e s m below meth c E hr hlk hml hQ ls hl => ?_)
  have hx := E.1
  have hb := E.2.1
  have hs : Sp ad 20 (FA ad 20) := Sp.fa hD
  have hl : lv_has ls 3 [(0, .ref (ad 0)), (1, .int a1), (2, .int a2)] := hl
  refine lv_aload_n hx hb dX12_seat_0 rfl (lv_at hl 0 rfl) ?_
  refine lv_iconst (v := 0) hx hb dX12_seat_1 (by decide) ?_
  have c_1 : S 0 = .inr (12, [.int 0, .ref (ad 1), .ref (ad 2), .ref (ad 3), .ref (ad 4), .ref (ad 5), .int 0, .int 0, .int 0, .int 0, .int 0, .long 0, .int 0, .int 0, .int 0, .int (-1), .ref (ad 6), .ref (ad 7), .ref (ad 8), .ref (ad 9), .ref (ad 10), .ref (ad 11), .ref (ad 12), .ref (ad 13), .ref (ad 14), .ref (ad 15), .int 0, .int 0, .ref (ad 16), .int 0, .int 0, .int 0, .int 0, .int 0, .ref (ad 17), .ref (ad 18), .int 0, .ref (ad 19)]) := (hX 0 (by decide))
  refine xputi E hs hQ 0 (by decide) c_1 rfl 0 (by decide) q1468 rfl rfl (Nat.le_of_ble_eq_true rfl) dX12_seat_2 (fun H locs S2 e2 hQ => ?_)
  have hX : ∀ i, i < 20 → S2 i = M0 g ad i := same_up hX e2 rfl
  refine lv_aload_n hx hb dX12_seat_5 rfl (lv_at hl 0 rfl) ?_
  refine lv_iload_n hx hb dX12_seat_6 rfl (lv_at hl 1 rfl) ?_
  have c_3 : S2 0 = .inr (12, [.int 0, .ref (ad 1), .ref (ad 2), .ref (ad 3), .ref (ad 4), .ref (ad 5), .int 0, .int 0, .int 0, .int 0, .int 0, .long 0, .int 0, .int 0, .int 0, .int (-1), .ref (ad 6), .ref (ad 7), .ref (ad 8), .ref (ad 9), .ref (ad 10), .ref (ad 11), .ref (ad 12), .ref (ad 13), .ref (ad 14), .ref (ad 15), .int 0, .int 0, .ref (ad 16), .int 0, .int 0, .int 0, .int 0, .int 0, .ref (ad 17), .ref (ad 18), .int 0, .ref (ad 19)]) := (hX 0 (by decide))
  refine xcVi E hs hQ hml hl.1 0 (fX12_isSitter l g ad hD S2 hX a1) mX12_isSitter q1816 (by decide) c_3 rfl rfl ⟨by decide, by decide⟩ ⟨by decide, by decide⟩ (by decide) rfl dX12_seat_7 (fun r4 S4 H locs hp4 hQ _ => ?_)
  obtain ⟨rfl, rfl⟩ := hp4
  refine lv_if_eq (tgt := 22) hx hb dX12_seat_10 (by decide) (fun k_5 => ?_) (fun k_5 => absurd k_5 (by decide))
  refine lv_bipush (v := (-2)) hx hb dX12_seat_22 (by decide) ?_
  exact xri E hr hlk hQ (rfl) dX12_seat_24
set_option maxHeartbeats 4000000 in
set_option maxRecDepth 100000 in
theorem fX12_seats (l : Launch) (g : GG) (ad : Nat → Nat) (hD : Dj ad 20) (S : SS) (hX : ∀ i, i < 20 → S i = M0 g ad i) (a1 : Int32) : Met l yX12_seats (wG (.code yX12_seats cX12_seats 4 (some .int))) (Rm 2) (XPre g ad 20 S [.ref (ad 0), .int a1]) (va_Qi (fun r _ => r = (-2)) (QB g ad 20) (FA ad 20)) 0 0 (FA ad 20) := by
  refine xmet cX12_seats "EbbWreckModel" (by decide) rfl (Nat.le_of_ble_eq_true rfl) (fun p e s m below meth c E hr hlk hml hQ ls hl => ?_)
  have hx := E.1
  have hb := E.2.1
  have hs : Sp ad 20 (FA ad 20) := Sp.fa hD
  have hl : lv_has ls 4 [(0, .ref (ad 0)), (1, .int a1)] := hl
  refine lv_aload_n hx hb dX12_seats_0 rfl (lv_at hl 0 rfl) ?_
  refine lv_iconst (v := 0) hx hb dX12_seats_1 (by decide) ?_
  have c_1 : S 0 = .inr (12, [.int 0, .ref (ad 1), .ref (ad 2), .ref (ad 3), .ref (ad 4), .ref (ad 5), .int 0, .int 0, .int 0, .int 0, .int 0, .long 0, .int 0, .int 0, .int 0, .int (-1), .ref (ad 6), .ref (ad 7), .ref (ad 8), .ref (ad 9), .ref (ad 10), .ref (ad 11), .ref (ad 12), .ref (ad 13), .ref (ad 14), .ref (ad 15), .int 0, .int 0, .ref (ad 16), .int 0, .int 0, .int 0, .int 0, .int 0, .ref (ad 17), .ref (ad 18), .int 0, .ref (ad 19)]) := (hX 0 (by decide))
  refine xputi E hs hQ 0 (by decide) c_1 rfl 0 (by decide) q1468 rfl rfl (Nat.le_of_ble_eq_true rfl) dX12_seats_2 (fun H locs S2 e2 hQ => ?_)
  have hX : ∀ i, i < 20 → S2 i = M0 g ad i := same_up hX e2 rfl
  refine lv_aload_n hx hb dX12_seats_5 rfl (lv_at hl 0 rfl) ?_
  refine lv_iload_n hx hb dX12_seats_6 rfl (lv_at hl 1 rfl) ?_
  have c_3 : S2 0 = .inr (12, [.int 0, .ref (ad 1), .ref (ad 2), .ref (ad 3), .ref (ad 4), .ref (ad 5), .int 0, .int 0, .int 0, .int 0, .int 0, .long 0, .int 0, .int 0, .int 0, .int (-1), .ref (ad 6), .ref (ad 7), .ref (ad 8), .ref (ad 9), .ref (ad 10), .ref (ad 11), .ref (ad 12), .ref (ad 13), .ref (ad 14), .ref (ad 15), .int 0, .int 0, .ref (ad 16), .int 0, .int 0, .int 0, .int 0, .int 0, .ref (ad 17), .ref (ad 18), .int 0, .ref (ad 19)]) := (hX 0 (by decide))
  refine xcVi E hs hQ hml hl.1 0 (fX12_isSitter l g ad hD S2 hX a1) mX12_isSitter q1816 (by decide) c_3 rfl rfl ⟨by decide, by decide⟩ ⟨by decide, by decide⟩ (by decide) rfl dX12_seats_7 (fun r4 S4 H locs hp4 hQ _ => ?_)
  obtain ⟨rfl, rfl⟩ := hp4
  refine lv_if_ne (tgt := 16) hx hb dX12_seats_10 (by decide) (fun k_5 => absurd k_5 (by decide)) (fun k_5 => ?_)
  refine lv_bipush (v := (-2)) hx hb dX12_seats_13 (by decide) ?_
  exact xri E hr hlk hQ (rfl) dX12_seats_15
set_option maxHeartbeats 4000000 in
set_option maxRecDepth 100000 in
theorem fX12_rests_ (l : Launch) (g : GG) (ad : Nat → Nat) (hD : Dj ad 20) (S : SS) (hX : ∀ i, i < 20 → S i = M0 g ad i) : Met l yX12_rests_ (wG (.code yX12_rests_ cX12_rests_ 1 (some .int))) (Rm 1) (XPre g ad 20 S [.ref (ad 0)]) (va_Qi (fun r _ => r = (-2)) (QB g ad 20) (FA ad 20)) 0 0 (FA ad 20) := by
  refine xmet cX12_rests_ "EbbWreckModel" (by decide) rfl (Nat.le_of_ble_eq_true rfl) (fun p e s m below meth c E hr hlk hml hQ ls hl => ?_)
  have hx := E.1
  have hb := E.2.1
  have hs : Sp ad 20 (FA ad 20) := Sp.fa hD
  have hl : lv_has ls 1 [(0, .ref (ad 0))] := hl
  refine lv_aload_n hx hb dX12_rests__0 rfl (lv_at hl 0 rfl) ?_
  refine lv_iconst (v := 0) hx hb dX12_rests__1 (by decide) ?_
  have c_1 : S 0 = .inr (12, [.int 0, .ref (ad 1), .ref (ad 2), .ref (ad 3), .ref (ad 4), .ref (ad 5), .int 0, .int 0, .int 0, .int 0, .int 0, .long 0, .int 0, .int 0, .int 0, .int (-1), .ref (ad 6), .ref (ad 7), .ref (ad 8), .ref (ad 9), .ref (ad 10), .ref (ad 11), .ref (ad 12), .ref (ad 13), .ref (ad 14), .ref (ad 15), .int 0, .int 0, .ref (ad 16), .int 0, .int 0, .int 0, .int 0, .int 0, .ref (ad 17), .ref (ad 18), .int 0, .ref (ad 19)]) := (hX 0 (by decide))
  refine xputi E hs hQ 0 (by decide) c_1 rfl 0 (by decide) q1468 rfl rfl (Nat.le_of_ble_eq_true rfl) dX12_rests__2 (fun H locs S2 e2 hQ => ?_)
  have hX : ∀ i, i < 20 → S2 i = M0 g ad i := same_up hX e2 rfl
  refine lv_aload_n hx hb dX12_rests__5 rfl (lv_at hl 0 rfl) ?_
  have c_3 : S2 0 = .inr (12, [.int 0, .ref (ad 1), .ref (ad 2), .ref (ad 3), .ref (ad 4), .ref (ad 5), .int 0, .int 0, .int 0, .int 0, .int 0, .long 0, .int 0, .int 0, .int 0, .int (-1), .ref (ad 6), .ref (ad 7), .ref (ad 8), .ref (ad 9), .ref (ad 10), .ref (ad 11), .ref (ad 12), .ref (ad 13), .ref (ad 14), .ref (ad 15), .int 0, .int 0, .ref (ad 16), .int 0, .int 0, .int 0, .int 0, .int 0, .ref (ad 17), .ref (ad 18), .int 0, .ref (ad 19)]) := (hX 0 (by decide))
  refine xcVi E hs hQ hml hl.1 0 (fX12_isShore l g ad hD S2 hX ) mX12_isShore q1782 (by decide) c_3 rfl rfl ⟨by decide, by decide⟩ ⟨by decide, by decide⟩ (by decide) rfl dX12_rests__6 (fun r4 S4 H locs hp4 hQ _ => ?_)
  obtain ⟨rfl, rfl⟩ := hp4
  refine lv_if_eq (tgt := 19) hx hb dX12_rests__9 (by decide) (fun k_5 => ?_) (fun k_5 => absurd k_5 (by decide))
  refine lv_bipush (v := (-2)) hx hb dX12_rests__19 (by decide) ?_
  exact xri E hr hlk hQ (rfl) dX12_rests__21
set_option maxHeartbeats 4000000 in
set_option maxRecDepth 100000 in
theorem fX12_rest (l : Launch) (g : GG) (ad : Nat → Nat) (hD : Dj ad 20) (S : SS) (hX : ∀ i, i < 20 → S i = M0 g ad i) (a1 : Int32) : Met l yX12_rest (wG (.code yX12_rest cX12_rest 2 (some .int))) (Rm 2) (XPre g ad 20 S [.ref (ad 0), .int a1]) (va_Qi (fun r _ => r = (-2)) (QB g ad 20) (FA ad 20)) 0 0 (FA ad 20) := by
  refine xmet cX12_rest "EbbWreckModel" (by decide) rfl (Nat.le_of_ble_eq_true rfl) (fun p e s m below meth c E hr hlk hml hQ ls hl => ?_)
  have hx := E.1
  have hb := E.2.1
  have hs : Sp ad 20 (FA ad 20) := Sp.fa hD
  have hl : lv_has ls 2 [(0, .ref (ad 0)), (1, .int a1)] := hl
  refine lv_aload_n hx hb dX12_rest_0 rfl (lv_at hl 0 rfl) ?_
  refine lv_iconst (v := 0) hx hb dX12_rest_1 (by decide) ?_
  have c_1 : S 0 = .inr (12, [.int 0, .ref (ad 1), .ref (ad 2), .ref (ad 3), .ref (ad 4), .ref (ad 5), .int 0, .int 0, .int 0, .int 0, .int 0, .long 0, .int 0, .int 0, .int 0, .int (-1), .ref (ad 6), .ref (ad 7), .ref (ad 8), .ref (ad 9), .ref (ad 10), .ref (ad 11), .ref (ad 12), .ref (ad 13), .ref (ad 14), .ref (ad 15), .int 0, .int 0, .ref (ad 16), .int 0, .int 0, .int 0, .int 0, .int 0, .ref (ad 17), .ref (ad 18), .int 0, .ref (ad 19)]) := (hX 0 (by decide))
  refine xputi E hs hQ 0 (by decide) c_1 rfl 0 (by decide) q1468 rfl rfl (Nat.le_of_ble_eq_true rfl) dX12_rest_2 (fun H locs S2 e2 hQ => ?_)
  have hX : ∀ i, i < 20 → S2 i = M0 g ad i := same_up hX e2 rfl
  refine lv_aload_n hx hb dX12_rest_5 rfl (lv_at hl 0 rfl) ?_
  refine lv_iload_n hx hb dX12_rest_6 rfl (lv_at hl 1 rfl) ?_
  have c_3 : S2 0 = .inr (12, [.int 0, .ref (ad 1), .ref (ad 2), .ref (ad 3), .ref (ad 4), .ref (ad 5), .int 0, .int 0, .int 0, .int 0, .int 0, .long 0, .int 0, .int 0, .int 0, .int (-1), .ref (ad 6), .ref (ad 7), .ref (ad 8), .ref (ad 9), .ref (ad 10), .ref (ad 11), .ref (ad 12), .ref (ad 13), .ref (ad 14), .ref (ad 15), .int 0, .int 0, .ref (ad 16), .int 0, .int 0, .int 0, .int 0, .int 0, .ref (ad 17), .ref (ad 18), .int 0, .ref (ad 19)]) := (hX 0 (by decide))
  refine xcVi E hs hQ hml hl.1 0 (fX12_isSitter l g ad hD S2 hX a1) mX12_isSitter q1816 (by decide) c_3 rfl rfl ⟨by decide, by decide⟩ ⟨by decide, by decide⟩ (by decide) rfl dX12_rest_7 (fun r4 S4 H locs hp4 hQ _ => ?_)
  obtain ⟨rfl, rfl⟩ := hp4
  refine lv_if_ne (tgt := 16) hx hb dX12_rest_10 (by decide) (fun k_5 => absurd k_5 (by decide)) (fun k_5 => ?_)
  refine lv_bipush (v := (-2)) hx hb dX12_rest_13 (by decide) ?_
  exact xri E hr hlk hQ (rfl) dX12_rest_15
set_option maxHeartbeats 4000000 in
set_option maxRecDepth 100000 in
theorem fX12_sit (l : Launch) (g : GG) (ad : Nat → Nat) (hD : Dj ad 20) (S : SS) (hX : ∀ i, i < 20 → S i = M0 g ad i) (a1 : Int32) (a2 : Int32) : Met l yX12_sit (wG (.code yX12_sit cX12_sit 3 (some .int))) (Rm 2) (XPre g ad 20 S [.ref (ad 0), .int a1, .int a2]) (va_Qi (fun r _ => r = (-2)) (QB g ad 20) (FA ad 20)) 0 0 (FA ad 20) := by
  refine xmet cX12_sit "EbbWreckModel" (by decide) rfl (Nat.le_of_ble_eq_true rfl) (fun p e s m below meth c E hr hlk hml hQ ls hl => ?_)
  have hx := E.1
  have hb := E.2.1
  have hs : Sp ad 20 (FA ad 20) := Sp.fa hD
  have hl : lv_has ls 3 [(0, .ref (ad 0)), (1, .int a1), (2, .int a2)] := hl
  refine lv_aload_n hx hb dX12_sit_0 rfl (lv_at hl 0 rfl) ?_
  refine lv_iconst (v := 0) hx hb dX12_sit_1 (by decide) ?_
  have c_1 : S 0 = .inr (12, [.int 0, .ref (ad 1), .ref (ad 2), .ref (ad 3), .ref (ad 4), .ref (ad 5), .int 0, .int 0, .int 0, .int 0, .int 0, .long 0, .int 0, .int 0, .int 0, .int (-1), .ref (ad 6), .ref (ad 7), .ref (ad 8), .ref (ad 9), .ref (ad 10), .ref (ad 11), .ref (ad 12), .ref (ad 13), .ref (ad 14), .ref (ad 15), .int 0, .int 0, .ref (ad 16), .int 0, .int 0, .int 0, .int 0, .int 0, .ref (ad 17), .ref (ad 18), .int 0, .ref (ad 19)]) := (hX 0 (by decide))
  refine xputi E hs hQ 0 (by decide) c_1 rfl 0 (by decide) q1468 rfl rfl (Nat.le_of_ble_eq_true rfl) dX12_sit_2 (fun H locs S2 e2 hQ => ?_)
  have hX : ∀ i, i < 20 → S2 i = M0 g ad i := same_up hX e2 rfl
  refine lv_aload_n hx hb dX12_sit_5 rfl (lv_at hl 0 rfl) ?_
  refine lv_iload_n hx hb dX12_sit_6 rfl (lv_at hl 1 rfl) ?_
  have c_3 : S2 0 = .inr (12, [.int 0, .ref (ad 1), .ref (ad 2), .ref (ad 3), .ref (ad 4), .ref (ad 5), .int 0, .int 0, .int 0, .int 0, .int 0, .long 0, .int 0, .int 0, .int 0, .int (-1), .ref (ad 6), .ref (ad 7), .ref (ad 8), .ref (ad 9), .ref (ad 10), .ref (ad 11), .ref (ad 12), .ref (ad 13), .ref (ad 14), .ref (ad 15), .int 0, .int 0, .ref (ad 16), .int 0, .int 0, .int 0, .int 0, .int 0, .ref (ad 17), .ref (ad 18), .int 0, .ref (ad 19)]) := (hX 0 (by decide))
  refine xcVi E hs hQ hml hl.1 0 (fX12_isSitter l g ad hD S2 hX a1) mX12_isSitter q1816 (by decide) c_3 rfl rfl ⟨by decide, by decide⟩ ⟨by decide, by decide⟩ (by decide) rfl dX12_sit_7 (fun r4 S4 H locs hp4 hQ _ => ?_)
  obtain ⟨rfl, rfl⟩ := hp4
  refine lv_if_eq (tgt := 22) hx hb dX12_sit_10 (by decide) (fun k_5 => ?_) (fun k_5 => absurd k_5 (by decide))
  refine lv_bipush (v := (-2)) hx hb dX12_sit_22 (by decide) ?_
  exact xri E hr hlk hQ (rfl) dX12_sit_24
set_option maxHeartbeats 4000000 in
set_option maxRecDepth 100000 in
theorem fX12_shove (l : Launch) (g : GG) (ad : Nat → Nat) (hD : Dj ad 20) (S : SS) (hX : ∀ i, i < 20 → S i = M0 g ad i) (a1 : Int32) (a2 : Int32) (a3 : Int32) : Met l yX12_shove (wG (.code yX12_shove cX12_shove 6 (some .int))) (Rm 2) (XPre g ad 20 S [.ref (ad 0), .int a1, .int a2, .int a3]) (va_Qi (fun r _ => r = (-2)) (QB g ad 20) (FA ad 20)) 0 0 (FA ad 20) := by
  refine xmet cX12_shove "EbbWreckModel" (by decide) rfl (Nat.le_of_ble_eq_true rfl) (fun p e s m below meth c E hr hlk hml hQ ls hl => ?_)
  have hx := E.1
  have hb := E.2.1
  have hs : Sp ad 20 (FA ad 20) := Sp.fa hD
  have hl : lv_has ls 6 [(0, .ref (ad 0)), (1, .int a1), (2, .int a2), (3, .int a3)] := hl
  refine lv_aload_n hx hb dX12_shove_0 rfl (lv_at hl 0 rfl) ?_
  refine lv_iconst (v := 0) hx hb dX12_shove_1 (by decide) ?_
  have c_1 : S 0 = .inr (12, [.int 0, .ref (ad 1), .ref (ad 2), .ref (ad 3), .ref (ad 4), .ref (ad 5), .int 0, .int 0, .int 0, .int 0, .int 0, .long 0, .int 0, .int 0, .int 0, .int (-1), .ref (ad 6), .ref (ad 7), .ref (ad 8), .ref (ad 9), .ref (ad 10), .ref (ad 11), .ref (ad 12), .ref (ad 13), .ref (ad 14), .ref (ad 15), .int 0, .int 0, .ref (ad 16), .int 0, .int 0, .int 0, .int 0, .int 0, .ref (ad 17), .ref (ad 18), .int 0, .ref (ad 19)]) := (hX 0 (by decide))
  refine xputi E hs hQ 0 (by decide) c_1 rfl 0 (by decide) q1468 rfl rfl (Nat.le_of_ble_eq_true rfl) dX12_shove_2 (fun H locs S2 e2 hQ => ?_)
  have hX : ∀ i, i < 20 → S2 i = M0 g ad i := same_up hX e2 rfl
  refine lv_aload_n hx hb dX12_shove_5 rfl (lv_at hl 0 rfl) ?_
  refine lv_iload_n hx hb dX12_shove_6 rfl (lv_at hl 1 rfl) ?_
  have c_3 : S2 0 = .inr (12, [.int 0, .ref (ad 1), .ref (ad 2), .ref (ad 3), .ref (ad 4), .ref (ad 5), .int 0, .int 0, .int 0, .int 0, .int 0, .long 0, .int 0, .int 0, .int 0, .int (-1), .ref (ad 6), .ref (ad 7), .ref (ad 8), .ref (ad 9), .ref (ad 10), .ref (ad 11), .ref (ad 12), .ref (ad 13), .ref (ad 14), .ref (ad 15), .int 0, .int 0, .ref (ad 16), .int 0, .int 0, .int 0, .int 0, .int 0, .ref (ad 17), .ref (ad 18), .int 0, .ref (ad 19)]) := (hX 0 (by decide))
  refine xcVi E hs hQ hml hl.1 0 (fX12_isThing l g ad hD S2 hX a1) mX12_isThing q1766 (by decide) c_3 rfl rfl ⟨by decide, by decide⟩ ⟨by decide, by decide⟩ (by decide) rfl dX12_shove_7 (fun r4 S4 H locs hp4 hQ _ => ?_)
  obtain ⟨rfl, rfl⟩ := hp4
  refine lv_if_eq (tgt := 35) hx hb dX12_shove_10 (by decide) (fun k_5 => ?_) (fun k_5 => absurd k_5 (by decide))
  refine lv_bipush (v := (-2)) hx hb dX12_shove_35 (by decide) ?_
  exact xri E hr hlk hQ (rfl) dX12_shove_37
set_option maxHeartbeats 4000000 in
set_option maxRecDepth 100000 in
theorem fX12_undo (l : Launch) (g : GG) (ad : Nat → Nat) (hD : Dj ad 20) (S : SS) (hX : ∀ i, i < 20 → S i = M0 g ad i) : Met l yX12_undo (wG (.code yX12_undo cX12_undo 1 (some .int))) (Rm 1) (XPre g ad 20 S [.ref (ad 0)]) (va_Qi (fun r _ => r = (-2)) (QB g ad 20) (FA ad 20)) 0 0 (FA ad 20) := by
  refine xmet cX12_undo "EbbWreckModel" (by decide) rfl (Nat.le_of_ble_eq_true rfl) (fun p e s m below meth c E hr hlk hml hQ ls hl => ?_)
  have hx := E.1
  have hb := E.2.1
  have hs : Sp ad 20 (FA ad 20) := Sp.fa hD
  have hl : lv_has ls 1 [(0, .ref (ad 0))] := hl
  refine lv_aload_n hx hb dX12_undo_0 rfl (lv_at hl 0 rfl) ?_
  refine lv_iconst (v := 0) hx hb dX12_undo_1 (by decide) ?_
  have c_1 : S 0 = .inr (12, [.int 0, .ref (ad 1), .ref (ad 2), .ref (ad 3), .ref (ad 4), .ref (ad 5), .int 0, .int 0, .int 0, .int 0, .int 0, .long 0, .int 0, .int 0, .int 0, .int (-1), .ref (ad 6), .ref (ad 7), .ref (ad 8), .ref (ad 9), .ref (ad 10), .ref (ad 11), .ref (ad 12), .ref (ad 13), .ref (ad 14), .ref (ad 15), .int 0, .int 0, .ref (ad 16), .int 0, .int 0, .int 0, .int 0, .int 0, .ref (ad 17), .ref (ad 18), .int 0, .ref (ad 19)]) := (hX 0 (by decide))
  refine xputi E hs hQ 0 (by decide) c_1 rfl 0 (by decide) q1468 rfl rfl (Nat.le_of_ble_eq_true rfl) dX12_undo_2 (fun H locs S2 e2 hQ => ?_)
  have hX : ∀ i, i < 20 → S2 i = M0 g ad i := same_up hX e2 rfl
  refine lv_aload_n hx hb dX12_undo_5 rfl (lv_at hl 0 rfl) ?_
  have c_3 : S2 0 = .inr (12, [.int 0, .ref (ad 1), .ref (ad 2), .ref (ad 3), .ref (ad 4), .ref (ad 5), .int 0, .int 0, .int 0, .int 0, .int 0, .long 0, .int 0, .int 0, .int 0, .int (-1), .ref (ad 6), .ref (ad 7), .ref (ad 8), .ref (ad 9), .ref (ad 10), .ref (ad 11), .ref (ad 12), .ref (ad 13), .ref (ad 14), .ref (ad 15), .int 0, .int 0, .ref (ad 16), .int 0, .int 0, .int 0, .int 0, .int 0, .ref (ad 17), .ref (ad 18), .int 0, .ref (ad 19)]) := (hX 0 (by decide))
  refine xcVi E hs hQ hml hl.1 0 (fX12_isShore l g ad hD S2 hX ) mX12_isShore q1782 (by decide) c_3 rfl rfl ⟨by decide, by decide⟩ ⟨by decide, by decide⟩ (by decide) rfl dX12_undo_6 (fun r4 S4 H locs hp4 hQ _ => ?_)
  obtain ⟨rfl, rfl⟩ := hp4
  refine lv_if_ne (tgt := 15) hx hb dX12_undo_9 (by decide) (fun k_5 => absurd k_5 (by decide)) (fun k_5 => ?_)
  refine lv_bipush (v := (-2)) hx hb dX12_undo_12 (by decide) ?_
  exact xri E hr hlk hQ (rfl) dX12_undo_14
set_option maxHeartbeats 4000000 in
set_option maxRecDepth 100000 in
theorem fX12_anew (l : Launch) (g : GG) (ad : Nat → Nat) (hD : Dj ad 20) (S : SS) (hX : ∀ i, i < 20 → S i = M0 g ad i) : Met l yX12_anew (wG (.code yX12_anew cX12_anew 2 (some .int))) (Rm 1) (XPre g ad 20 S [.ref (ad 0)]) (va_Qi (fun r _ => r = (-2)) (QB g ad 20) (FA ad 20)) 0 0 (FA ad 20) := by
  refine xmet cX12_anew "EbbWreckModel" (by decide) rfl (Nat.le_of_ble_eq_true rfl) (fun p e s m below meth c E hr hlk hml hQ ls hl => ?_)
  have hx := E.1
  have hb := E.2.1
  have hs : Sp ad 20 (FA ad 20) := Sp.fa hD
  have hl : lv_has ls 2 [(0, .ref (ad 0))] := hl
  refine lv_aload_n hx hb dX12_anew_0 rfl (lv_at hl 0 rfl) ?_
  refine lv_iconst (v := 0) hx hb dX12_anew_1 (by decide) ?_
  have c_1 : S 0 = .inr (12, [.int 0, .ref (ad 1), .ref (ad 2), .ref (ad 3), .ref (ad 4), .ref (ad 5), .int 0, .int 0, .int 0, .int 0, .int 0, .long 0, .int 0, .int 0, .int 0, .int (-1), .ref (ad 6), .ref (ad 7), .ref (ad 8), .ref (ad 9), .ref (ad 10), .ref (ad 11), .ref (ad 12), .ref (ad 13), .ref (ad 14), .ref (ad 15), .int 0, .int 0, .ref (ad 16), .int 0, .int 0, .int 0, .int 0, .int 0, .ref (ad 17), .ref (ad 18), .int 0, .ref (ad 19)]) := (hX 0 (by decide))
  refine xputi E hs hQ 0 (by decide) c_1 rfl 0 (by decide) q1468 rfl rfl (Nat.le_of_ble_eq_true rfl) dX12_anew_2 (fun H locs S2 e2 hQ => ?_)
  have hX : ∀ i, i < 20 → S2 i = M0 g ad i := same_up hX e2 rfl
  refine lv_aload_n hx hb dX12_anew_5 rfl (lv_at hl 0 rfl) ?_
  have c_3 : S2 0 = .inr (12, [.int 0, .ref (ad 1), .ref (ad 2), .ref (ad 3), .ref (ad 4), .ref (ad 5), .int 0, .int 0, .int 0, .int 0, .int 0, .long 0, .int 0, .int 0, .int 0, .int (-1), .ref (ad 6), .ref (ad 7), .ref (ad 8), .ref (ad 9), .ref (ad 10), .ref (ad 11), .ref (ad 12), .ref (ad 13), .ref (ad 14), .ref (ad 15), .int 0, .int 0, .ref (ad 16), .int 0, .int 0, .int 0, .int 0, .int 0, .ref (ad 17), .ref (ad 18), .int 0, .ref (ad 19)]) := (hX 0 (by decide))
  refine xcVi E hs hQ hml hl.1 0 (fX12_isShore l g ad hD S2 hX ) mX12_isShore q1782 (by decide) c_3 rfl rfl ⟨by decide, by decide⟩ ⟨by decide, by decide⟩ (by decide) rfl dX12_anew_6 (fun r4 S4 H locs hp4 hQ _ => ?_)
  obtain ⟨rfl, rfl⟩ := hp4
  refine lv_if_ne (tgt := 15) hx hb dX12_anew_9 (by decide) (fun k_5 => absurd k_5 (by decide)) (fun k_5 => ?_)
  refine lv_bipush (v := (-2)) hx hb dX12_anew_12 (by decide) ?_
  exact xri E hr hlk hQ (rfl) dX12_anew_14
set_option maxHeartbeats 4000000 in
set_option maxRecDepth 100000 in
theorem fX12_rate (l : Launch) (g : GG) (ad : Nat → Nat) (hD : Dj ad 20) (S : SS) (hX : ∀ i, i < 20 → S i = M0 g ad i) (a1 : Int32) (a2 : Int32) : Met l yX12_rate (wG (.code yX12_rate cX12_rate 4 (some .int))) (Rm 2) (XPre g ad 20 S [.ref (ad 0), .int a1, .int a2]) (va_Qi (fun r _ => r = (-2)) (QB g ad 20) (FA ad 20)) 0 0 (FA ad 20) := by
  refine xmet cX12_rate "EbbWreckModel" (by decide) rfl (Nat.le_of_ble_eq_true rfl) (fun p e s m below meth c E hr hlk hml hQ ls hl => ?_)
  have hx := E.1
  have hb := E.2.1
  have hs : Sp ad 20 (FA ad 20) := Sp.fa hD
  have hl : lv_has ls 4 [(0, .ref (ad 0)), (1, .int a1), (2, .int a2)] := hl
  refine lv_aload_n hx hb dX12_rate_0 rfl (lv_at hl 0 rfl) ?_
  refine lv_iconst (v := 0) hx hb dX12_rate_1 (by decide) ?_
  have c_1 : S 0 = .inr (12, [.int 0, .ref (ad 1), .ref (ad 2), .ref (ad 3), .ref (ad 4), .ref (ad 5), .int 0, .int 0, .int 0, .int 0, .int 0, .long 0, .int 0, .int 0, .int 0, .int (-1), .ref (ad 6), .ref (ad 7), .ref (ad 8), .ref (ad 9), .ref (ad 10), .ref (ad 11), .ref (ad 12), .ref (ad 13), .ref (ad 14), .ref (ad 15), .int 0, .int 0, .ref (ad 16), .int 0, .int 0, .int 0, .int 0, .int 0, .ref (ad 17), .ref (ad 18), .int 0, .ref (ad 19)]) := (hX 0 (by decide))
  refine xputi E hs hQ 0 (by decide) c_1 rfl 0 (by decide) q1468 rfl rfl (Nat.le_of_ble_eq_true rfl) dX12_rate_2 (fun H locs S2 e2 hQ => ?_)
  have hX : ∀ i, i < 20 → S2 i = M0 g ad i := same_up hX e2 rfl
  refine lv_aload_n hx hb dX12_rate_5 rfl (lv_at hl 0 rfl) ?_
  refine lv_iload_n hx hb dX12_rate_6 rfl (lv_at hl 1 rfl) ?_
  have c_3 : S2 0 = .inr (12, [.int 0, .ref (ad 1), .ref (ad 2), .ref (ad 3), .ref (ad 4), .ref (ad 5), .int 0, .int 0, .int 0, .int 0, .int 0, .long 0, .int 0, .int 0, .int 0, .int (-1), .ref (ad 6), .ref (ad 7), .ref (ad 8), .ref (ad 9), .ref (ad 10), .ref (ad 11), .ref (ad 12), .ref (ad 13), .ref (ad 14), .ref (ad 15), .int 0, .int 0, .ref (ad 16), .int 0, .int 0, .int 0, .int 0, .int 0, .ref (ad 17), .ref (ad 18), .int 0, .ref (ad 19)]) := (hX 0 (by decide))
  refine xcVi E hs hQ hml hl.1 0 (fX12_isThing l g ad hD S2 hX a1) mX12_isThing q1766 (by decide) c_3 rfl rfl ⟨by decide, by decide⟩ ⟨by decide, by decide⟩ (by decide) rfl dX12_rate_7 (fun r4 S4 H locs hp4 hQ _ => ?_)
  obtain ⟨rfl, rfl⟩ := hp4
  refine lv_if_eq (tgt := 25) hx hb dX12_rate_10 (by decide) (fun k_5 => ?_) (fun k_5 => absurd k_5 (by decide))
  refine lv_bipush (v := (-2)) hx hb dX12_rate_25 (by decide) ?_
  exact xri E hr hlk hQ (rfl) dX12_rate_27
set_option maxHeartbeats 4000000 in
set_option maxRecDepth 100000 in
theorem fX12_drawn (l : Launch) (g : GG) (ad : Nat → Nat) (hD : Dj ad 20) (S : SS) (hX : ∀ i, i < 20 → S i = M0 g ad i) (a1 : Int32) (a2 : Int32) (a3 : Int32) : Met l yX12_drawn (wG (.code yX12_drawn cX12_drawn 4 (some .int))) (Rm 3) (XPre g ad 20 S [.ref (ad 0), .int a1, .int a2, .int a3]) (va_Qi (fun r _ => r = (-2)) (QB g ad 20) (FA ad 20)) 0 0 (FA ad 20) := by
  refine xmet cX12_drawn "EbbWreckModel" (by decide) rfl (Nat.le_of_ble_eq_true rfl) (fun p e s m below meth c E hr hlk hml hQ ls hl => ?_)
  have hx := E.1
  have hb := E.2.1
  have hs : Sp ad 20 (FA ad 20) := Sp.fa hD
  have hl : lv_has ls 4 [(0, .ref (ad 0)), (1, .int a1), (2, .int a2), (3, .int a3)] := hl
  refine lv_aload_n hx hb dX12_drawn_0 rfl (lv_at hl 0 rfl) ?_
  refine lv_iconst (v := 0) hx hb dX12_drawn_1 (by decide) ?_
  have c_1 : S 0 = .inr (12, [.int 0, .ref (ad 1), .ref (ad 2), .ref (ad 3), .ref (ad 4), .ref (ad 5), .int 0, .int 0, .int 0, .int 0, .int 0, .long 0, .int 0, .int 0, .int 0, .int (-1), .ref (ad 6), .ref (ad 7), .ref (ad 8), .ref (ad 9), .ref (ad 10), .ref (ad 11), .ref (ad 12), .ref (ad 13), .ref (ad 14), .ref (ad 15), .int 0, .int 0, .ref (ad 16), .int 0, .int 0, .int 0, .int 0, .int 0, .ref (ad 17), .ref (ad 18), .int 0, .ref (ad 19)]) := (hX 0 (by decide))
  refine xputi E hs hQ 0 (by decide) c_1 rfl 0 (by decide) q1468 rfl rfl (Nat.le_of_ble_eq_true rfl) dX12_drawn_2 (fun H locs S2 e2 hQ => ?_)
  have hX : ∀ i, i < 20 → S2 i = M0 g ad i := same_up hX e2 rfl
  refine lv_aload_n hx hb dX12_drawn_5 rfl (lv_at hl 0 rfl) ?_
  refine lv_iload_n hx hb dX12_drawn_6 rfl (lv_at hl 1 rfl) ?_
  refine lv_iload_n hx hb dX12_drawn_7 rfl (lv_at hl 2 rfl) ?_
  have c_3 : S2 0 = .inr (12, [.int 0, .ref (ad 1), .ref (ad 2), .ref (ad 3), .ref (ad 4), .ref (ad 5), .int 0, .int 0, .int 0, .int 0, .int 0, .long 0, .int 0, .int 0, .int 0, .int (-1), .ref (ad 6), .ref (ad 7), .ref (ad 8), .ref (ad 9), .ref (ad 10), .ref (ad 11), .ref (ad 12), .ref (ad 13), .ref (ad 14), .ref (ad 15), .int 0, .int 0, .ref (ad 16), .int 0, .int 0, .int 0, .int 0, .int 0, .ref (ad 17), .ref (ad 18), .int 0, .ref (ad 19)]) := (hX 0 (by decide))
  refine xcVi E hs hQ hml hl.1 0 (fX12_isDraw l g ad hD S2 hX a1 a2) mX12_isDraw q2128 (by decide) c_3 rfl rfl ⟨by decide, by decide⟩ ⟨by decide, by decide⟩ (by decide) rfl dX12_drawn_8 (fun r4 S4 H locs hp4 hQ _ => ?_)
  obtain ⟨rfl, rfl⟩ := hp4
  refine lv_if_eq (tgt := 26) hx hb dX12_drawn_11 (by decide) (fun k_5 => ?_) (fun k_5 => absurd k_5 (by decide))
  refine lv_bipush (v := (-2)) hx hb dX12_drawn_26 (by decide) ?_
  exact xri E hr hlk hQ (rfl) dX12_drawn_28
set_option maxHeartbeats 4000000 in
set_option maxRecDepth 100000 in
theorem fX12_luck (l : Launch) (g : GG) (ad : Nat → Nat) (hD : Dj ad 20) (S : SS) (hX : ∀ i, i < 20 → S i = M0 g ad i) (a1 : Int32) (a2 : Int32) (a3 : Int32) (a4 : Int32) : Met l yX12_luck (wG (.code yX12_luck cX12_luck 7 (some .int))) (Rm 3) (XPre g ad 20 S [.ref (ad 0), .int a1, .int a2, .int a3, .int a4]) (va_Qi (fun r _ => r = (-2)) (QB g ad 20) (FA ad 20)) 0 0 (FA ad 20) := by
  refine xmet cX12_luck "EbbWreckModel" (by decide) rfl (Nat.le_of_ble_eq_true rfl) (fun p e s m below meth c E hr hlk hml hQ ls hl => ?_)
  have hx := E.1
  have hb := E.2.1
  have hs : Sp ad 20 (FA ad 20) := Sp.fa hD
  have hl : lv_has ls 7 [(0, .ref (ad 0)), (1, .int a1), (2, .int a2), (3, .int a3), (4, .int a4)] := hl
  refine lv_aload_n hx hb dX12_luck_0 rfl (lv_at hl 0 rfl) ?_
  refine lv_iconst (v := 0) hx hb dX12_luck_1 (by decide) ?_
  have c_1 : S 0 = .inr (12, [.int 0, .ref (ad 1), .ref (ad 2), .ref (ad 3), .ref (ad 4), .ref (ad 5), .int 0, .int 0, .int 0, .int 0, .int 0, .long 0, .int 0, .int 0, .int 0, .int (-1), .ref (ad 6), .ref (ad 7), .ref (ad 8), .ref (ad 9), .ref (ad 10), .ref (ad 11), .ref (ad 12), .ref (ad 13), .ref (ad 14), .ref (ad 15), .int 0, .int 0, .ref (ad 16), .int 0, .int 0, .int 0, .int 0, .int 0, .ref (ad 17), .ref (ad 18), .int 0, .ref (ad 19)]) := (hX 0 (by decide))
  refine xputi E hs hQ 0 (by decide) c_1 rfl 0 (by decide) q1468 rfl rfl (Nat.le_of_ble_eq_true rfl) dX12_luck_2 (fun H locs S2 e2 hQ => ?_)
  have hX : ∀ i, i < 20 → S2 i = M0 g ad i := same_up hX e2 rfl
  refine lv_aload_n hx hb dX12_luck_5 rfl (lv_at hl 0 rfl) ?_
  refine lv_iload_n hx hb dX12_luck_6 rfl (lv_at hl 1 rfl) ?_
  refine lv_iload_n hx hb dX12_luck_7 rfl (lv_at hl 3 rfl) ?_
  have c_3 : S2 0 = .inr (12, [.int 0, .ref (ad 1), .ref (ad 2), .ref (ad 3), .ref (ad 4), .ref (ad 5), .int 0, .int 0, .int 0, .int 0, .int 0, .long 0, .int 0, .int 0, .int 0, .int (-1), .ref (ad 6), .ref (ad 7), .ref (ad 8), .ref (ad 9), .ref (ad 10), .ref (ad 11), .ref (ad 12), .ref (ad 13), .ref (ad 14), .ref (ad 15), .int 0, .int 0, .ref (ad 16), .int 0, .int 0, .int 0, .int 0, .int 0, .ref (ad 17), .ref (ad 18), .int 0, .ref (ad 19)]) := (hX 0 (by decide))
  refine xcVi E hs hQ hml hl.1 0 (fX12_isDraw l g ad hD S2 hX a1 a3) mX12_isDraw q2128 (by decide) c_3 rfl rfl ⟨by decide, by decide⟩ ⟨by decide, by decide⟩ (by decide) rfl dX12_luck_8 (fun r4 S4 H locs hp4 hQ _ => ?_)
  obtain ⟨rfl, rfl⟩ := hp4
  refine lv_if_eq (tgt := 35) hx hb dX12_luck_11 (by decide) (fun k_5 => ?_) (fun k_5 => absurd k_5 (by decide))
  refine lv_bipush (v := (-2)) hx hb dX12_luck_35 (by decide) ?_
  exact xri E hr hlk hQ (rfl) dX12_luck_37
set_option maxHeartbeats 4000000 in
set_option maxRecDepth 100000 in
theorem fX12_waits (l : Launch) (g : GG) (ad : Nat → Nat) (hD : Dj ad 20) (S : SS) (hX : ∀ i, i < 20 → S i = M0 g ad i) (a1 : Int32) (a2 : Int32) (a3 : Int32) : Met l yX12_waits (wG (.code yX12_waits cX12_waits 7 (some .int))) (Rm 3) (XPre g ad 20 S [.ref (ad 0), .int a1, .int a2, .int a3]) (va_Qi (fun r _ => r = (-2)) (QB g ad 20) (FA ad 20)) 0 0 (FA ad 20) := by
  refine xmet cX12_waits "EbbWreckModel" (by decide) rfl (Nat.le_of_ble_eq_true rfl) (fun p e s m below meth c E hr hlk hml hQ ls hl => ?_)
  have hx := E.1
  have hb := E.2.1
  have hs : Sp ad 20 (FA ad 20) := Sp.fa hD
  have hl : lv_has ls 7 [(0, .ref (ad 0)), (1, .int a1), (2, .int a2), (3, .int a3)] := hl
  refine lv_aload_n hx hb dX12_waits_0 rfl (lv_at hl 0 rfl) ?_
  refine lv_iconst (v := 0) hx hb dX12_waits_1 (by decide) ?_
  have c_1 : S 0 = .inr (12, [.int 0, .ref (ad 1), .ref (ad 2), .ref (ad 3), .ref (ad 4), .ref (ad 5), .int 0, .int 0, .int 0, .int 0, .int 0, .long 0, .int 0, .int 0, .int 0, .int (-1), .ref (ad 6), .ref (ad 7), .ref (ad 8), .ref (ad 9), .ref (ad 10), .ref (ad 11), .ref (ad 12), .ref (ad 13), .ref (ad 14), .ref (ad 15), .int 0, .int 0, .ref (ad 16), .int 0, .int 0, .int 0, .int 0, .int 0, .ref (ad 17), .ref (ad 18), .int 0, .ref (ad 19)]) := (hX 0 (by decide))
  refine xputi E hs hQ 0 (by decide) c_1 rfl 0 (by decide) q1468 rfl rfl (Nat.le_of_ble_eq_true rfl) dX12_waits_2 (fun H locs S2 e2 hQ => ?_)
  have hX : ∀ i, i < 20 → S2 i = M0 g ad i := same_up hX e2 rfl
  refine lv_aload_n hx hb dX12_waits_5 rfl (lv_at hl 0 rfl) ?_
  refine lv_iload_n hx hb dX12_waits_6 rfl (lv_at hl 1 rfl) ?_
  refine lv_iload_n hx hb dX12_waits_7 rfl (lv_at hl 3 rfl) ?_
  have c_3 : S2 0 = .inr (12, [.int 0, .ref (ad 1), .ref (ad 2), .ref (ad 3), .ref (ad 4), .ref (ad 5), .int 0, .int 0, .int 0, .int 0, .int 0, .long 0, .int 0, .int 0, .int 0, .int (-1), .ref (ad 6), .ref (ad 7), .ref (ad 8), .ref (ad 9), .ref (ad 10), .ref (ad 11), .ref (ad 12), .ref (ad 13), .ref (ad 14), .ref (ad 15), .int 0, .int 0, .ref (ad 16), .int 0, .int 0, .int 0, .int 0, .int 0, .ref (ad 17), .ref (ad 18), .int 0, .ref (ad 19)]) := (hX 0 (by decide))
  refine xcVi E hs hQ hml hl.1 0 (fX12_isDraw l g ad hD S2 hX a1 a3) mX12_isDraw q2128 (by decide) c_3 rfl rfl ⟨by decide, by decide⟩ ⟨by decide, by decide⟩ (by decide) rfl dX12_waits_8 (fun r4 S4 H locs hp4 hQ _ => ?_)
  obtain ⟨rfl, rfl⟩ := hp4
  refine lv_if_eq (tgt := 26) hx hb dX12_waits_11 (by decide) (fun k_5 => ?_) (fun k_5 => absurd k_5 (by decide))
  refine lv_bipush (v := (-2)) hx hb dX12_waits_26 (by decide) ?_
  exact xri E hr hlk hQ (rfl) dX12_waits_28
