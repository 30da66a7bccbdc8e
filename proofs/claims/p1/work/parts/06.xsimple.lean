set_option maxHeartbeats 4000000 in
set_option maxRecDepth 100000 in
theorem fX1_isTold (l : Launch) (g : GG) (ad : Nat → Nat) (hD : Dj ad 122) (S : SS) (hX : ∀ i, i < 122 → S i = X0 g ad i) : Met l yX1_isTold (wG (.code yX1_isTold cX1_isTold 1 (some .boolean))) (Rm 0) (XPre g ad 122 S [.ref (ad 2)]) (va_Qi (fun r S' => S = S' ∧ r = 0) (QB g ad 122) (FA ad 122)) 0 0 (FA ad 122) := by
  refine xmet cX1_isTold "EbbWreck$Coast" (by decide) rfl (Nat.le_of_ble_eq_true rfl) (fun p e s m below meth c E hr hlk hml hQ ls hl => ?_)
  have hx := E.1
  have hb := E.2.1
  have hs : Sp ad 122 (FA ad 122) := Sp.fa hD
  have hl : lv_has ls 1 [(0, .ref (ad 2))] := hl
  refine lv_aload_n hx hb dX1_isTold_0 rfl (lv_at hl 0 rfl) ?_
  have c_1 : S 2 = .inr (1, [.int 0, .int 0, .int 0, .ref (ad 3), .ref (ad 5), .ref (ad 6), .int 0, .int 0, .ref (ad 7), .ref (ad 8), .ref (ad 9), .ref (ad 10), .int 0, .ref (ad 15), .ref (ad 16)]) := (hX 2 (by decide))
  refine xget E hQ 2 (by decide) c_1 rfl 0 (by decide) q236 rfl dX1_isTold_1 ?_
  refine lv_if_le (tgt := 11) hx hb dX1_isTold_4 (by decide) (fun k_2 => ?_) (fun k_2 => absurd k_2 (by decide))
  refine lv_iconst (v := 0) hx hb dX1_isTold_11 (by decide) ?_
  exact xrz E hr hlk hQ rfl (⟨rfl, rfl⟩) dX1_isTold_12
set_option maxHeartbeats 4000000 in
set_option maxRecDepth 100000 in
theorem fX1_hasCell (l : Launch) (g : GG) (ad : Nat → Nat) (hD : Dj ad 122) (S : SS) (hX : ∀ i, i < 122 → S i = X0 g ad i) (a1 : Int32) : Met l yX1_hasCell (wG (.code yX1_hasCell cX1_hasCell 2 (some .boolean))) (Rm 0) (XPre g ad 122 S [.ref (ad 2), .int a1]) (va_Qi (fun r S' => S = S' ∧ r = 0) (QB g ad 122) (FA ad 122)) 0 0 (FA ad 122) := by
  refine xmet cX1_hasCell "EbbWreck$Coast" (by decide) rfl (Nat.le_of_ble_eq_true rfl) (fun p e s m below meth c E hr hlk hml hQ ls hl => ?_)
  have hx := E.1
  have hb := E.2.1
  have hs : Sp ad 122 (FA ad 122) := Sp.fa hD
  have hl : lv_has ls 2 [(0, .ref (ad 2)), (1, .int a1)] := hl
  refine lv_iload_n hx hb dX1_hasCell_0 rfl (lv_at hl 1 rfl) ?_
  refine lv_if_lt (tgt := 16) hx hb dX1_hasCell_1 (by decide) (fun k_1 => ?_) (fun k_1 => ?_)
  · refine lv_iconst (v := 0) hx hb dX1_hasCell_16 (by decide) ?_
    exact xrz E hr hlk hQ rfl (⟨rfl, rfl⟩) dX1_hasCell_17
  · refine lv_iload_n hx hb dX1_hasCell_4 rfl (lv_at hl 1 rfl) ?_
    refine lv_aload_n hx hb dX1_hasCell_5 rfl (lv_at hl 0 rfl) ?_
    have c_2 : S 2 = .inr (1, [.int 0, .int 0, .int 0, .ref (ad 3), .ref (ad 5), .ref (ad 6), .int 0, .int 0, .ref (ad 7), .ref (ad 8), .ref (ad 9), .ref (ad 10), .int 0, .ref (ad 15), .ref (ad 16)]) := (hX 2 (by decide))
    refine xget E hQ 2 (by decide) c_2 rfl 1 (by decide) q239 rfl dX1_hasCell_6 ?_
    refine lv_icmp_ge (tgt := 16) hx hb dX1_hasCell_9 (by decide) (fun k_3 => ?_) (fun k_3 => absurd k_3 (fun h => h (nlt_le k_1)))
    refine lv_iconst (v := 0) hx hb dX1_hasCell_16 (by decide) ?_
    exact xrz E hr hlk hQ rfl (⟨rfl, rfl⟩) dX1_hasCell_17
set_option maxHeartbeats 4000000 in
set_option maxRecDepth 100000 in
theorem fX1_hasThing (l : Launch) (g : GG) (ad : Nat → Nat) (hD : Dj ad 122) (S : SS) (hX : ∀ i, i < 122 → S i = X0 g ad i) (a1 : Int32) : Met l yX1_hasThing (wG (.code yX1_hasThing cX1_hasThing 2 (some .boolean))) (Rm 0) (XPre g ad 122 S [.ref (ad 2), .int a1]) (va_Qi (fun r S' => S = S' ∧ r = 0) (QB g ad 122) (FA ad 122)) 0 0 (FA ad 122) := by
  refine xmet cX1_hasThing "EbbWreck$Coast" (by decide) rfl (Nat.le_of_ble_eq_true rfl) (fun p e s m below meth c E hr hlk hml hQ ls hl => ?_)
  have hx := E.1
  have hb := E.2.1
  have hs : Sp ad 122 (FA ad 122) := Sp.fa hD
  have hl : lv_has ls 2 [(0, .ref (ad 2)), (1, .int a1)] := hl
  refine lv_iload_n hx hb dX1_hasThing_0 rfl (lv_at hl 1 rfl) ?_
  refine lv_if_lt (tgt := 16) hx hb dX1_hasThing_1 (by decide) (fun k_1 => ?_) (fun k_1 => ?_)
  · refine lv_iconst (v := 0) hx hb dX1_hasThing_16 (by decide) ?_
    exact xrz E hr hlk hQ rfl (⟨rfl, rfl⟩) dX1_hasThing_17
  · refine lv_iload_n hx hb dX1_hasThing_4 rfl (lv_at hl 1 rfl) ?_
    refine lv_aload_n hx hb dX1_hasThing_5 rfl (lv_at hl 0 rfl) ?_
    have c_2 : S 2 = .inr (1, [.int 0, .int 0, .int 0, .ref (ad 3), .ref (ad 5), .ref (ad 6), .int 0, .int 0, .ref (ad 7), .ref (ad 8), .ref (ad 9), .ref (ad 10), .int 0, .ref (ad 15), .ref (ad 16)]) := (hX 2 (by decide))
    refine xget E hQ 2 (by decide) c_2 rfl 7 (by decide) q270 rfl dX1_hasThing_6 ?_
    refine lv_icmp_ge (tgt := 16) hx hb dX1_hasThing_9 (by decide) (fun k_3 => ?_) (fun k_3 => absurd k_3 (fun h => h (nlt_le k_1)))
    refine lv_iconst (v := 0) hx hb dX1_hasThing_16 (by decide) ?_
    exact xrz E hr hlk hQ rfl (⟨rfl, rfl⟩) dX1_hasThing_17
set_option maxHeartbeats 4000000 in
set_option maxRecDepth 100000 in
theorem fX1_hasSitter (l : Launch) (g : GG) (ad : Nat → Nat) (hD : Dj ad 122) (S : SS) (hX : ∀ i, i < 122 → S i = X0 g ad i) (a1 : Int32) : Met l yX1_hasSitter (wG (.code yX1_hasSitter cX1_hasSitter 2 (some .boolean))) (Rm 0) (XPre g ad 122 S [.ref (ad 2), .int a1]) (va_Qi (fun r S' => S = S' ∧ r = 0) (QB g ad 122) (FA ad 122)) 0 0 (FA ad 122) := by
  refine xmet cX1_hasSitter "EbbWreck$Coast" (by decide) rfl (Nat.le_of_ble_eq_true rfl) (fun p e s m below meth c E hr hlk hml hQ ls hl => ?_)
  have hx := E.1
  have hb := E.2.1
  have hs : Sp ad 122 (FA ad 122) := Sp.fa hD
  have hl : lv_has ls 2 [(0, .ref (ad 2)), (1, .int a1)] := hl
  refine lv_iload_n hx hb dX1_hasSitter_0 rfl (lv_at hl 1 rfl) ?_
  refine lv_if_lt (tgt := 16) hx hb dX1_hasSitter_1 (by decide) (fun k_1 => ?_) (fun k_1 => ?_)
  · refine lv_iconst (v := 0) hx hb dX1_hasSitter_16 (by decide) ?_
    exact xrz E hr hlk hQ rfl (⟨rfl, rfl⟩) dX1_hasSitter_17
  · refine lv_iload_n hx hb dX1_hasSitter_4 rfl (lv_at hl 1 rfl) ?_
    refine lv_aload_n hx hb dX1_hasSitter_5 rfl (lv_at hl 0 rfl) ?_
    have c_2 : S 2 = .inr (1, [.int 0, .int 0, .int 0, .ref (ad 3), .ref (ad 5), .ref (ad 6), .int 0, .int 0, .ref (ad 7), .ref (ad 8), .ref (ad 9), .ref (ad 10), .int 0, .ref (ad 15), .ref (ad 16)]) := (hX 2 (by decide))
    refine xget E hQ 2 (by decide) c_2 rfl 12 (by decide) q293 rfl dX1_hasSitter_6 ?_
    refine lv_icmp_ge (tgt := 16) hx hb dX1_hasSitter_9 (by decide) (fun k_3 => ?_) (fun k_3 => absurd k_3 (fun h => h (nlt_le k_1)))
    refine lv_iconst (v := 0) hx hb dX1_hasSitter_16 (by decide) ?_
    exact xrz E hr hlk hQ rfl (⟨rfl, rfl⟩) dX1_hasSitter_17
set_option maxHeartbeats 4000000 in
set_option maxRecDepth 100000 in
theorem fX6_hasRule (l : Launch) (g : GG) (ad : Nat → Nat) (hD : Dj ad 122) (S : SS) (hX : ∀ i, i < 122 → S i = X0 g ad i) (a1 : Int32) : Met l yX6_hasRule (wG (.code yX6_hasRule cX6_hasRule 2 (some .boolean))) (Rm 0) (XPre g ad 122 S [.ref (ad 10), .int a1]) (va_Qi (fun r S' => S = S' ∧ r = 0) (QB g ad 122) (FA ad 122)) 0 0 (FA ad 122) := by
  refine xmet cX6_hasRule "EbbWreck$RuleBook" (by decide) rfl (Nat.le_of_ble_eq_true rfl) (fun p e s m below meth c E hr hlk hml hQ ls hl => ?_)
  have hx := E.1
  have hb := E.2.1
  have hs : Sp ad 122 (FA ad 122) := Sp.fa hD
  have hl : lv_has ls 2 [(0, .ref (ad 10)), (1, .int a1)] := hl
  refine lv_iload_n hx hb dX6_hasRule_0 rfl (lv_at hl 1 rfl) ?_
  refine lv_if_lt (tgt := 16) hx hb dX6_hasRule_1 (by decide) (fun k_1 => ?_) (fun k_1 => ?_)
  · refine lv_iconst (v := 0) hx hb dX6_hasRule_16 (by decide) ?_
    exact xrz E hr hlk hQ rfl (⟨rfl, rfl⟩) dX6_hasRule_17
  · refine lv_iload_n hx hb dX6_hasRule_4 rfl (lv_at hl 1 rfl) ?_
    refine lv_aload_n hx hb dX6_hasRule_5 rfl (lv_at hl 0 rfl) ?_
    have c_2 : S 10 = .inr (6, [.int 0, .ref (ad 11), .ref (ad 12), .ref (ad 13), .ref (ad 14)]) := (hX 10 (by decide))
    refine xget E hQ 10 (by decide) c_2 rfl 0 (by decide) q186 rfl dX6_hasRule_6 ?_
    refine lv_icmp_ge (tgt := 16) hx hb dX6_hasRule_9 (by decide) (fun k_3 => ?_) (fun k_3 => absurd k_3 (fun h => h (nlt_le k_1)))
    refine lv_iconst (v := 0) hx hb dX6_hasRule_16 (by decide) ?_
    exact xrz E hr hlk hQ rfl (⟨rfl, rfl⟩) dX6_hasRule_17
set_option maxHeartbeats 4000000 in
set_option maxRecDepth 100000 in
theorem fX11_isTideHour (l : Launch) (g : GG) (ad : Nat → Nat) (hD : Dj ad 122) (S : SS) (hX : ∀ i, i < 122 → S i = X0 g ad i) (a1 : Int32) : Met l yX11_isTideHour (wG (.code yX11_isTideHour cX11_isTideHour 2 (some .boolean))) (Rm 1) (XPre g ad 122 S [.ref (ad 0), .int a1]) (va_Qi (fun r S' => S = S' ∧ r = 0) (QB g ad 122) (FA ad 122)) 0 0 (FA ad 122) := by
  refine xmet cX11_isTideHour "EbbWreck" (by decide) rfl (Nat.le_of_ble_eq_true rfl) (fun p e s m below meth c E hr hlk hml hQ ls hl => ?_)
  have hx := E.1
  have hb := E.2.1
  have hs : Sp ad 122 (FA ad 122) := Sp.fa hD
  have hl : lv_has ls 2 [(0, .ref (ad 0)), (1, .int a1)] := hl
  refine lv_aload_n hx hb dX11_isTideHour_0 rfl (lv_at hl 0 rfl) ?_
  have c_1 : S 0 = .inr (11, [.ref (ad 1), .int 0, .int 0, .int (-1), .ref (ad 2), .ref (ad 20), .ref (ad 38), .ref (ad 93), .ref (ad 94), .ref (ad 95), .ref (ad 102), .ref (ad 104), .ref (ad 107), .ref (ad 111), .ref (ad 119)]) := (hX 0 (by decide))
  refine xget E hQ 0 (by decide) c_1 rfl 4 (by decide) q520 rfl dX11_isTideHour_1 ?_
  have c_2 : S 2 = .inr (1, [.int 0, .int 0, .int 0, .ref (ad 3), .ref (ad 5), .ref (ad 6), .int 0, .int 0, .ref (ad 7), .ref (ad 8), .ref (ad 9), .ref (ad 10), .int 0, .ref (ad 15), .ref (ad 16)]) := (hX 2 (by decide))
  refine xcVi E hs hQ hml hl.1 2 (fX1_isTold l g ad hD S hX ) mX1_isTold q878 (by decide) c_2 rfl rfl ⟨by decide, by decide⟩ ⟨by decide, by decide⟩ (by decide) rfl dX11_isTideHour_4 (fun r3 S3 H locs hp3 hQ _ => ?_)
  obtain ⟨rfl, rfl⟩ := hp3
  refine lv_if_eq (tgt := 23) hx hb dX11_isTideHour_7 (by decide) (fun k_4 => ?_) (fun k_4 => absurd k_4 (by decide))
  refine lv_iconst (v := 0) hx hb dX11_isTideHour_23 (by decide) ?_
  exact xrz E hr hlk hQ rfl (⟨rfl, rfl⟩) dX11_isTideHour_24
set_option maxHeartbeats 4000000 in
set_option maxRecDepth 100000 in
theorem fX11_isAskedParty (l : Launch) (g : GG) (ad : Nat → Nat) (hD : Dj ad 122) (S : SS) (hX : ∀ i, i < 122 → S i = X0 g ad i) (a1 : Int32) : Met l yX11_isAskedParty (wG (.code yX11_isAskedParty cX11_isAskedParty 2 (some .boolean))) (Rm 1) (XPre g ad 122 S [.ref (ad 0), .int a1]) (va_Qi (fun r S' => S = S' ∧ r = 0) (QB g ad 122) (FA ad 122)) 0 0 (FA ad 122) := by
  refine xmet cX11_isAskedParty "EbbWreck" (by decide) rfl (Nat.le_of_ble_eq_true rfl) (fun p e s m below meth c E hr hlk hml hQ ls hl => ?_)
  have hx := E.1
  have hb := E.2.1
  have hs : Sp ad 122 (FA ad 122) := Sp.fa hD
  have hl : lv_has ls 2 [(0, .ref (ad 0)), (1, .int a1)] := hl
  refine lv_aload_n hx hb dX11_isAskedParty_0 rfl (lv_at hl 0 rfl) ?_
  have c_1 : S 0 = .inr (11, [.ref (ad 1), .int 0, .int 0, .int (-1), .ref (ad 2), .ref (ad 20), .ref (ad 38), .ref (ad 93), .ref (ad 94), .ref (ad 95), .ref (ad 102), .ref (ad 104), .ref (ad 107), .ref (ad 111), .ref (ad 119)]) := (hX 0 (by decide))
  refine xget E hQ 0 (by decide) c_1 rfl 4 (by decide) q520 rfl dX11_isAskedParty_1 ?_
  have c_2 : S 2 = .inr (1, [.int 0, .int 0, .int 0, .ref (ad 3), .ref (ad 5), .ref (ad 6), .int 0, .int 0, .ref (ad 7), .ref (ad 8), .ref (ad 9), .ref (ad 10), .int 0, .ref (ad 15), .ref (ad 16)]) := (hX 2 (by decide))
  refine xcVi E hs hQ hml hl.1 2 (fX1_isTold l g ad hD S hX ) mX1_isTold q878 (by decide) c_2 rfl rfl ⟨by decide, by decide⟩ ⟨by decide, by decide⟩ (by decide) rfl dX11_isAskedParty_4 (fun r3 S3 H locs hp3 hQ _ => ?_)
  obtain ⟨rfl, rfl⟩ := hp3
  refine lv_if_eq (tgt := 24) hx hb dX11_isAskedParty_7 (by decide) (fun k_4 => ?_) (fun k_4 => absurd k_4 (by decide))
  refine lv_iconst (v := 0) hx hb dX11_isAskedParty_24 (by decide) ?_
  exact xrz E hr hlk hQ rfl (⟨rfl, rfl⟩) dX11_isAskedParty_25
set_option maxHeartbeats 4000000 in
set_option maxRecDepth 100000 in
theorem fX11_isWish (l : Launch) (g : GG) (ad : Nat → Nat) (hD : Dj ad 122) (S : SS) (hX : ∀ i, i < 122 → S i = X0 g ad i) (a1 : Int32) (a2 : Int32) : Met l yX11_isWish (wG (.code yX11_isWish cX11_isWish 3 (some .boolean))) (Rm 1) (XPre g ad 122 S [.ref (ad 0), .int a1, .int a2]) (va_Qi (fun r S' => S = S' ∧ r = 0) (QB g ad 122) (FA ad 122)) 0 0 (FA ad 122) := by
  refine xmet cX11_isWish "EbbWreck" (by decide) rfl (Nat.le_of_ble_eq_true rfl) (fun p e s m below meth c E hr hlk hml hQ ls hl => ?_)
  have hx := E.1
  have hb := E.2.1
  have hs : Sp ad 122 (FA ad 122) := Sp.fa hD
  have hl : lv_has ls 3 [(0, .ref (ad 0)), (1, .int a1), (2, .int a2)] := hl
  refine lv_aload_n hx hb dX11_isWish_0 rfl (lv_at hl 0 rfl) ?_
  have c_1 : S 0 = .inr (11, [.ref (ad 1), .int 0, .int 0, .int (-1), .ref (ad 2), .ref (ad 20), .ref (ad 38), .ref (ad 93), .ref (ad 94), .ref (ad 95), .ref (ad 102), .ref (ad 104), .ref (ad 107), .ref (ad 111), .ref (ad 119)]) := (hX 0 (by decide))
  refine xget E hQ 0 (by decide) c_1 rfl 4 (by decide) q520 rfl dX11_isWish_1 ?_
  refine lv_iload_n hx hb dX11_isWish_4 rfl (lv_at hl 1 rfl) ?_
  have c_2 : S 2 = .inr (1, [.int 0, .int 0, .int 0, .ref (ad 3), .ref (ad 5), .ref (ad 6), .int 0, .int 0, .ref (ad 7), .ref (ad 8), .ref (ad 9), .ref (ad 10), .int 0, .ref (ad 15), .ref (ad 16)]) := (hX 2 (by decide))
  refine xcVi E hs hQ hml hl.1 2 (fX1_hasThing l g ad hD S hX a1) mX1_hasThing q832 (by decide) c_2 rfl rfl ⟨by decide, by decide⟩ ⟨by decide, by decide⟩ (by decide) rfl dX11_isWish_5 (fun r3 S3 H locs hp3 hQ _ => ?_)
  obtain ⟨rfl, rfl⟩ := hp3
  refine lv_if_eq (tgt := 23) hx hb dX11_isWish_8 (by decide) (fun k_4 => ?_) (fun k_4 => absurd k_4 (by decide))
  refine lv_iconst (v := 0) hx hb dX11_isWish_23 (by decide) ?_
  exact xrz E hr hlk hQ rfl (⟨rfl, rfl⟩) dX11_isWish_24
set_option maxHeartbeats 4000000 in
set_option maxRecDepth 100000 in
theorem fX11_isGale (l : Launch) (g : GG) (ad : Nat → Nat) (hD : Dj ad 122) (S : SS) (hX : ∀ i, i < 122 → S i = X0 g ad i) (a1 : Int32) (a2 : Int32) : Met l yX11_isGale (wG (.code yX11_isGale cX11_isGale 3 (some .boolean))) (Rm 1) (XPre g ad 122 S [.ref (ad 0), .int a1, .int a2]) (va_Qi (fun r S' => S = S' ∧ r = 0) (QB g ad 122) (FA ad 122)) 0 0 (FA ad 122) := by
  refine xmet cX11_isGale "EbbWreck" (by decide) rfl (Nat.le_of_ble_eq_true rfl) (fun p e s m below meth c E hr hlk hml hQ ls hl => ?_)
  have hx := E.1
  have hb := E.2.1
  have hs : Sp ad 122 (FA ad 122) := Sp.fa hD
  have hl : lv_has ls 3 [(0, .ref (ad 0)), (1, .int a1), (2, .int a2)] := hl
  refine lv_aload_n hx hb dX11_isGale_0 rfl (lv_at hl 0 rfl) ?_
  have c_1 : S 0 = .inr (11, [.ref (ad 1), .int 0, .int 0, .int (-1), .ref (ad 2), .ref (ad 20), .ref (ad 38), .ref (ad 93), .ref (ad 94), .ref (ad 95), .ref (ad 102), .ref (ad 104), .ref (ad 107), .ref (ad 111), .ref (ad 119)]) := (hX 0 (by decide))
  refine xget E hQ 0 (by decide) c_1 rfl 4 (by decide) q520 rfl dX11_isGale_1 ?_
  refine lv_iload_n hx hb dX11_isGale_4 rfl (lv_at hl 2 rfl) ?_
  have c_2 : S 2 = .inr (1, [.int 0, .int 0, .int 0, .ref (ad 3), .ref (ad 5), .ref (ad 6), .int 0, .int 0, .ref (ad 7), .ref (ad 8), .ref (ad 9), .ref (ad 10), .int 0, .ref (ad 15), .ref (ad 16)]) := (hX 2 (by decide))
  refine xcVi E hs hQ hml hl.1 2 (fX1_hasThing l g ad hD S hX a2) mX1_hasThing q832 (by decide) c_2 rfl rfl ⟨by decide, by decide⟩ ⟨by decide, by decide⟩ (by decide) rfl dX11_isGale_5 (fun r3 S3 H locs hp3 hQ _ => ?_)
  obtain ⟨rfl, rfl⟩ := hp3
  refine lv_if_eq (tgt := 24) hx hb dX11_isGale_8 (by decide) (fun k_4 => ?_) (fun k_4 => absurd k_4 (by decide))
  refine lv_iconst (v := 0) hx hb dX11_isGale_24 (by decide) ?_
  exact xrz E hr hlk hQ rfl (⟨rfl, rfl⟩) dX11_isGale_25
set_option maxHeartbeats 4000000 in
set_option maxRecDepth 100000 in
theorem fX11_cell (l : Launch) (g : GG) (ad : Nat → Nat) (hD : Dj ad 122) (S : SS) (hX : ∀ i, i < 122 → S i = X0 g ad i) (a1 : Int32) (a2 : Int32) : Met l yX11_cell (wG (.code yX11_cell cX11_cell 3 (some .int))) (Rm 1) (XPre g ad 122 S [.ref (ad 0), .int a1, .int a2]) (va_Qi (fun r S' => S = S' ∧ r = (-1000)) (QB g ad 122) (FA ad 122)) 0 0 (FA ad 122) := by
  refine xmet cX11_cell "EbbWreck" (by decide) rfl (Nat.le_of_ble_eq_true rfl) (fun p e s m below meth c E hr hlk hml hQ ls hl => ?_)
  have hx := E.1
  have hb := E.2.1
  have hs : Sp ad 122 (FA ad 122) := Sp.fa hD
  have hl : lv_has ls 3 [(0, .ref (ad 0)), (1, .int a1), (2, .int a2)] := hl
  refine lv_aload_n hx hb dX11_cell_0 rfl (lv_at hl 0 rfl) ?_
  have c_1 : S 0 = .inr (11, [.ref (ad 1), .int 0, .int 0, .int (-1), .ref (ad 2), .ref (ad 20), .ref (ad 38), .ref (ad 93), .ref (ad 94), .ref (ad 95), .ref (ad 102), .ref (ad 104), .ref (ad 107), .ref (ad 111), .ref (ad 119)]) := (hX 0 (by decide))
  refine xget E hQ 0 (by decide) c_1 rfl 4 (by decide) q520 rfl dX11_cell_1 ?_
  refine lv_iload_n hx hb dX11_cell_4 rfl (lv_at hl 1 rfl) ?_
  have c_2 : S 2 = .inr (1, [.int 0, .int 0, .int 0, .ref (ad 3), .ref (ad 5), .ref (ad 6), .int 0, .int 0, .ref (ad 7), .ref (ad 8), .ref (ad 9), .ref (ad 10), .int 0, .ref (ad 15), .ref (ad 16)]) := (hX 2 (by decide))
  refine xcVi E hs hQ hml hl.1 2 (fX1_hasCell l g ad hD S hX a1) mX1_hasCell q823 (by decide) c_2 rfl rfl ⟨by decide, by decide⟩ ⟨by decide, by decide⟩ (by decide) rfl dX11_cell_5 (fun r3 S3 H locs hp3 hQ _ => ?_)
  obtain ⟨rfl, rfl⟩ := hp3
  refine lv_if_ne (tgt := 15) hx hb dX11_cell_8 (by decide) (fun k_4 => absurd k_4 (by decide)) (fun k_4 => ?_)
  refine lv_sipush (v := (-1000)) hx hb dX11_cell_11 (by decide) ?_
  exact xri E hr hlk hQ (⟨rfl, rfl⟩) dX11_cell_14
set_option maxHeartbeats 4000000 in
set_option maxRecDepth 100000 in
theorem fX11_thing (l : Launch) (g : GG) (ad : Nat → Nat) (hD : Dj ad 122) (S : SS) (hX : ∀ i, i < 122 → S i = X0 g ad i) (a1 : Int32) (a2 : Int32) : Met l yX11_thing (wG (.code yX11_thing cX11_thing 3 (some .int))) (Rm 1) (XPre g ad 122 S [.ref (ad 0), .int a1, .int a2]) (va_Qi (fun r S' => S = S' ∧ r = (-2)) (QB g ad 122) (FA ad 122)) 0 0 (FA ad 122) := by
  refine xmet cX11_thing "EbbWreck" (by decide) rfl (Nat.le_of_ble_eq_true rfl) (fun p e s m below meth c E hr hlk hml hQ ls hl => ?_)
  have hx := E.1
  have hb := E.2.1
  have hs : Sp ad 122 (FA ad 122) := Sp.fa hD
  have hl : lv_has ls 3 [(0, .ref (ad 0)), (1, .int a1), (2, .int a2)] := hl
  refine lv_aload_n hx hb dX11_thing_0 rfl (lv_at hl 0 rfl) ?_
  have c_1 : S 0 = .inr (11, [.ref (ad 1), .int 0, .int 0, .int (-1), .ref (ad 2), .ref (ad 20), .ref (ad 38), .ref (ad 93), .ref (ad 94), .ref (ad 95), .ref (ad 102), .ref (ad 104), .ref (ad 107), .ref (ad 111), .ref (ad 119)]) := (hX 0 (by decide))
  refine xget E hQ 0 (by decide) c_1 rfl 4 (by decide) q520 rfl dX11_thing_1 ?_
  refine lv_iload_n hx hb dX11_thing_4 rfl (lv_at hl 1 rfl) ?_
  have c_2 : S 2 = .inr (1, [.int 0, .int 0, .int 0, .ref (ad 3), .ref (ad 5), .ref (ad 6), .int 0, .int 0, .ref (ad 7), .ref (ad 8), .ref (ad 9), .ref (ad 10), .int 0, .ref (ad 15), .ref (ad 16)]) := (hX 2 (by decide))
  refine xcVi E hs hQ hml hl.1 2 (fX1_hasThing l g ad hD S hX a1) mX1_hasThing q832 (by decide) c_2 rfl rfl ⟨by decide, by decide⟩ ⟨by decide, by decide⟩ (by decide) rfl dX11_thing_5 (fun r3 S3 H locs hp3 hQ _ => ?_)
  obtain ⟨rfl, rfl⟩ := hp3
  refine lv_if_ne (tgt := 14) hx hb dX11_thing_8 (by decide) (fun k_4 => absurd k_4 (by decide)) (fun k_4 => ?_)
  refine lv_bipush (v := (-2)) hx hb dX11_thing_11 (by decide) ?_
  exact xri E hr hlk hQ (⟨rfl, rfl⟩) dX11_thing_13
set_option maxHeartbeats 4000000 in
set_option maxRecDepth 100000 in
theorem fX11_rule (l : Launch) (g : GG) (ad : Nat → Nat) (hD : Dj ad 122) (S : SS) (hX : ∀ i, i < 122 → S i = X0 g ad i) (a1 : Int32) (a2 : Int32) : Met l yX11_rule (wG (.code yX11_rule cX11_rule 4 (some .int))) (Rm 1) (XPre g ad 122 S [.ref (ad 0), .int a1, .int a2]) (va_Qi (fun r S' => S = S' ∧ r = (-2)) (QB g ad 122) (FA ad 122)) 0 0 (FA ad 122) := by
  refine xmet cX11_rule "EbbWreck" (by decide) rfl (Nat.le_of_ble_eq_true rfl) (fun p e s m below meth c E hr hlk hml hQ ls hl => ?_)
  have hx := E.1
  have hb := E.2.1
  have hs : Sp ad 122 (FA ad 122) := Sp.fa hD
  have hl : lv_has ls 4 [(0, .ref (ad 0)), (1, .int a1), (2, .int a2)] := hl
  refine lv_aload_n hx hb dX11_rule_0 rfl (lv_at hl 0 rfl) ?_
  have c_1 : S 0 = .inr (11, [.ref (ad 1), .int 0, .int 0, .int (-1), .ref (ad 2), .ref (ad 20), .ref (ad 38), .ref (ad 93), .ref (ad 94), .ref (ad 95), .ref (ad 102), .ref (ad 104), .ref (ad 107), .ref (ad 111), .ref (ad 119)]) := (hX 0 (by decide))
  refine xget E hQ 0 (by decide) c_1 rfl 4 (by decide) q520 rfl dX11_rule_1 ?_
  have c_2 : S 2 = .inr (1, [.int 0, .int 0, .int 0, .ref (ad 3), .ref (ad 5), .ref (ad 6), .int 0, .int 0, .ref (ad 7), .ref (ad 8), .ref (ad 9), .ref (ad 10), .int 0, .ref (ad 15), .ref (ad 16)]) := (hX 2 (by decide))
  refine xget E hQ 2 (by decide) c_2 rfl 11 (by decide) q290 rfl dX11_rule_4 ?_
  refine lv_astore_n (lv' := [(3, .ref (ad 10)), (0, .ref (ad 0)), (1, .int a1), (2, .int a2)]) hx hb dX11_rule_7 rfl hl (by decide) rfl (fun ls hl => ?_)
  refine lv_aload_n hx hb dX11_rule_8 rfl (lv_at hl 0 rfl) ?_
  refine lv_iload_n hx hb dX11_rule_9 rfl (lv_at hl 2 rfl) ?_
  have c_3 : S 10 = .inr (6, [.int 0, .ref (ad 11), .ref (ad 12), .ref (ad 13), .ref (ad 14)]) := (hX 10 (by decide))
  refine xcVi E hs hQ hml hl.1 10 (fX6_hasRule l g ad hD S hX a1) mX6_hasRule q840 (by decide) c_3 rfl rfl ⟨by decide, by decide⟩ ⟨by decide, by decide⟩ (by decide) rfl dX11_rule_10 (fun r4 S4 H locs hp4 hQ _ => ?_)
  obtain ⟨rfl, rfl⟩ := hp4
  refine lv_if_ne (tgt := 19) hx hb dX11_rule_13 (by decide) (fun k_5 => absurd k_5 (by decide)) (fun k_5 => ?_)
  refine lv_bipush (v := (-2)) hx hb dX11_rule_16 (by decide) ?_
  exact xri E hr hlk hQ (⟨rfl, rfl⟩) dX11_rule_18
set_option maxHeartbeats 4000000 in
set_option maxRecDepth 100000 in
theorem fX11_sitter (l : Launch) (g : GG) (ad : Nat → Nat) (hD : Dj ad 122) (S : SS) (hX : ∀ i, i < 122 → S i = X0 g ad i) (a1 : Int32) : Met l yX11_sitter (wG (.code yX11_sitter cX11_sitter 2 (some .int))) (Rm 1) (XPre g ad 122 S [.ref (ad 0), .int a1]) (va_Qi (fun r S' => S = S' ∧ r = (-2)) (QB g ad 122) (FA ad 122)) 0 0 (FA ad 122) := by
  refine xmet cX11_sitter "EbbWreck" (by decide) rfl (Nat.le_of_ble_eq_true rfl) (fun p e s m below meth c E hr hlk hml hQ ls hl => ?_)
  have hx := E.1
  have hb := E.2.1
  have hs : Sp ad 122 (FA ad 122) := Sp.fa hD
  have hl : lv_has ls 2 [(0, .ref (ad 0)), (1, .int a1)] := hl
  refine lv_aload_n hx hb dX11_sitter_0 rfl (lv_at hl 0 rfl) ?_
  have c_1 : S 0 = .inr (11, [.ref (ad 1), .int 0, .int 0, .int (-1), .ref (ad 2), .ref (ad 20), .ref (ad 38), .ref (ad 93), .ref (ad 94), .ref (ad 95), .ref (ad 102), .ref (ad 104), .ref (ad 107), .ref (ad 111), .ref (ad 119)]) := (hX 0 (by decide))
  refine xget E hQ 0 (by decide) c_1 rfl 4 (by decide) q520 rfl dX11_sitter_1 ?_
  refine lv_iload_n hx hb dX11_sitter_4 rfl (lv_at hl 1 rfl) ?_
  have c_2 : S 2 = .inr (1, [.int 0, .int 0, .int 0, .ref (ad 3), .ref (ad 5), .ref (ad 6), .int 0, .int 0, .ref (ad 7), .ref (ad 8), .ref (ad 9), .ref (ad 10), .int 0, .ref (ad 15), .ref (ad 16)]) := (hX 2 (by decide))
  refine xcVi E hs hQ hml hl.1 2 (fX1_hasSitter l g ad hD S hX a1) mX1_hasSitter q848 (by decide) c_2 rfl rfl ⟨by decide, by decide⟩ ⟨by decide, by decide⟩ (by decide) rfl dX11_sitter_5 (fun r3 S3 H locs hp3 hQ _ => ?_)
  obtain ⟨rfl, rfl⟩ := hp3
  refine lv_if_eq (tgt := 23) hx hb dX11_sitter_8 (by decide) (fun k_4 => ?_) (fun k_4 => absurd k_4 (by decide))
  refine lv_bipush (v := (-2)) hx hb dX11_sitter_23 (by decide) ?_
  exact xri E hr hlk hQ (⟨rfl, rfl⟩) dX11_sitter_25
set_option maxHeartbeats 4000000 in
set_option maxRecDepth 100000 in
theorem fX11_phase (l : Launch) (g : GG) (ad : Nat → Nat) (hD : Dj ad 122) (S : SS) (hX : ∀ i, i < 122 → S i = X0 g ad i) (a1 : Int32) : Met l yX11_phase (wG (.code yX11_phase cX11_phase 2 (some .int))) (Rm 2) (XPre g ad 122 S [.ref (ad 0), .int a1]) (va_Qi (fun r S' => S = S' ∧ r = (-2)) (QB g ad 122) (FA ad 122)) 0 0 (FA ad 122) := by
  refine xmet cX11_phase "EbbWreck" (by decide) rfl (Nat.le_of_ble_eq_true rfl) (fun p e s m below meth c E hr hlk hml hQ ls hl => ?_)
  have hx := E.1
  have hb := E.2.1
  have hs : Sp ad 122 (FA ad 122) := Sp.fa hD
  have hl : lv_has ls 2 [(0, .ref (ad 0)), (1, .int a1)] := hl
  refine lv_aload_n hx hb dX11_phase_0 rfl (lv_at hl 0 rfl) ?_
  refine lv_iload_n hx hb dX11_phase_1 rfl (lv_at hl 1 rfl) ?_
  have c_1 : S 0 = .inr (11, [.ref (ad 1), .int 0, .int 0, .int (-1), .ref (ad 2), .ref (ad 20), .ref (ad 38), .ref (ad 93), .ref (ad 94), .ref (ad 95), .ref (ad 102), .ref (ad 104), .ref (ad 107), .ref (ad 111), .ref (ad 119)]) := (hX 0 (by decide))
  refine xcVi E hs hQ hml hl.1 0 (fX11_isTideHour l g ad hD S hX a1) mX11_isTideHour q874 (by decide) c_1 rfl rfl ⟨by decide, by decide⟩ ⟨by decide, by decide⟩ (by decide) rfl dX11_phase_2 (fun r2 S2 H locs hp2 hQ _ => ?_)
  obtain ⟨rfl, rfl⟩ := hp2
  refine lv_if_eq (tgt := 22) hx hb dX11_phase_5 (by decide) (fun k_3 => ?_) (fun k_3 => absurd k_3 (by decide))
  refine lv_bipush (v := (-2)) hx hb dX11_phase_22 (by decide) ?_
  exact xri E hr hlk hQ (⟨rfl, rfl⟩) dX11_phase_24
set_option maxHeartbeats 4000000 in
set_option maxRecDepth 100000 in
theorem fX11_next (l : Launch) (g : GG) (ad : Nat → Nat) (hD : Dj ad 122) (S : SS) (hX : ∀ i, i < 122 → S i = X0 g ad i) (a1 : Int32) (a2 : Int32) : Met l yX11_next (wG (.code yX11_next cX11_next 3 (some .int))) (Rm 1) (XPre g ad 122 S [.ref (ad 0), .int a1, .int a2]) (va_Qi (fun r S' => S = S' ∧ r = (-2)) (QB g ad 122) (FA ad 122)) 0 0 (FA ad 122) := by
  refine xmet cX11_next "EbbWreck" (by decide) rfl (Nat.le_of_ble_eq_true rfl) (fun p e s m below meth c E hr hlk hml hQ ls hl => ?_)
  have hx := E.1
  have hb := E.2.1
  have hs : Sp ad 122 (FA ad 122) := Sp.fa hD
  have hl : lv_has ls 3 [(0, .ref (ad 0)), (1, .int a1), (2, .int a2)] := hl
  refine lv_aload_n hx hb dX11_next_0 rfl (lv_at hl 0 rfl) ?_
  have c_1 : S 0 = .inr (11, [.ref (ad 1), .int 0, .int 0, .int (-1), .ref (ad 2), .ref (ad 20), .ref (ad 38), .ref (ad 93), .ref (ad 94), .ref (ad 95), .ref (ad 102), .ref (ad 104), .ref (ad 107), .ref (ad 111), .ref (ad 119)]) := (hX 0 (by decide))
  refine xget E hQ 0 (by decide) c_1 rfl 4 (by decide) q520 rfl dX11_next_1 ?_
  have c_2 : S 2 = .inr (1, [.int 0, .int 0, .int 0, .ref (ad 3), .ref (ad 5), .ref (ad 6), .int 0, .int 0, .ref (ad 7), .ref (ad 8), .ref (ad 9), .ref (ad 10), .int 0, .ref (ad 15), .ref (ad 16)]) := (hX 2 (by decide))
  refine xcVi E hs hQ hml hl.1 2 (fX1_isTold l g ad hD S hX ) mX1_isTold q878 (by decide) c_2 rfl rfl ⟨by decide, by decide⟩ ⟨by decide, by decide⟩ (by decide) rfl dX11_next_4 (fun r3 S3 H locs hp3 hQ _ => ?_)
  obtain ⟨rfl, rfl⟩ := hp3
  refine lv_if_eq (tgt := 26) hx hb dX11_next_7 (by decide) (fun k_4 => ?_) (fun k_4 => absurd k_4 (by decide))
  refine lv_bipush (v := (-2)) hx hb dX11_next_26 (by decide) ?_
  exact xri E hr hlk hQ (⟨rfl, rfl⟩) dX11_next_28
set_option maxHeartbeats 4000000 in
set_option maxRecDepth 100000 in
theorem fX11_lasts (l : Launch) (g : GG) (ad : Nat → Nat) (hD : Dj ad 122) (S : SS) (hX : ∀ i, i < 122 → S i = X0 g ad i) (a1 : Int32) : Met l yX11_lasts (wG (.code yX11_lasts cX11_lasts 2 (some .int))) (Rm 2) (XPre g ad 122 S [.ref (ad 0), .int a1]) (va_Qi (fun r S' => S = S' ∧ r = (-2)) (QB g ad 122) (FA ad 122)) 0 0 (FA ad 122) := by
  refine xmet cX11_lasts "EbbWreck" (by decide) rfl (Nat.le_of_ble_eq_true rfl) (fun p e s m below meth c E hr hlk hml hQ ls hl => ?_)
  have hx := E.1
  have hb := E.2.1
  have hs : Sp ad 122 (FA ad 122) := Sp.fa hD
  have hl : lv_has ls 2 [(0, .ref (ad 0)), (1, .int a1)] := hl
  refine lv_aload_n hx hb dX11_lasts_0 rfl (lv_at hl 0 rfl) ?_
  refine lv_iload_n hx hb dX11_lasts_1 rfl (lv_at hl 1 rfl) ?_
  have c_1 : S 0 = .inr (11, [.ref (ad 1), .int 0, .int 0, .int (-1), .ref (ad 2), .ref (ad 20), .ref (ad 38), .ref (ad 93), .ref (ad 94), .ref (ad 95), .ref (ad 102), .ref (ad 104), .ref (ad 107), .ref (ad 111), .ref (ad 119)]) := (hX 0 (by decide))
  refine xcVi E hs hQ hml hl.1 0 (fX11_isTideHour l g ad hD S hX a1) mX11_isTideHour q874 (by decide) c_1 rfl rfl ⟨by decide, by decide⟩ ⟨by decide, by decide⟩ (by decide) rfl dX11_lasts_2 (fun r2 S2 H locs hp2 hQ _ => ?_)
  obtain ⟨rfl, rfl⟩ := hp2
  refine lv_if_eq (tgt := 22) hx hb dX11_lasts_5 (by decide) (fun k_3 => ?_) (fun k_3 => absurd k_3 (by decide))
  refine lv_bipush (v := (-2)) hx hb dX11_lasts_22 (by decide) ?_
  exact xri E hr hlk hQ (⟨rfl, rfl⟩) dX11_lasts_24
set_option maxHeartbeats 4000000 in
set_option maxRecDepth 100000 in
theorem fX11_slacks (l : Launch) (g : GG) (ad : Nat → Nat) (hD : Dj ad 122) (S : SS) (hX : ∀ i, i < 122 → S i = X0 g ad i) (a1 : Int32) : Met l yX11_slacks (wG (.code yX11_slacks cX11_slacks 2 (some .int))) (Rm 2) (XPre g ad 122 S [.ref (ad 0), .int a1]) (va_Qi (fun r S' => S = S' ∧ r = (-2)) (QB g ad 122) (FA ad 122)) 0 0 (FA ad 122) := by
  refine xmet cX11_slacks "EbbWreck" (by decide) rfl (Nat.le_of_ble_eq_true rfl) (fun p e s m below meth c E hr hlk hml hQ ls hl => ?_)
  have hx := E.1
  have hb := E.2.1
  have hs : Sp ad 122 (FA ad 122) := Sp.fa hD
  have hl : lv_has ls 2 [(0, .ref (ad 0)), (1, .int a1)] := hl
  refine lv_aload_n hx hb dX11_slacks_0 rfl (lv_at hl 0 rfl) ?_
  refine lv_iload_n hx hb dX11_slacks_1 rfl (lv_at hl 1 rfl) ?_
  have c_1 : S 0 = .inr (11, [.ref (ad 1), .int 0, .int 0, .int (-1), .ref (ad 2), .ref (ad 20), .ref (ad 38), .ref (ad 93), .ref (ad 94), .ref (ad 95), .ref (ad 102), .ref (ad 104), .ref (ad 107), .ref (ad 111), .ref (ad 119)]) := (hX 0 (by decide))
  refine xcVi E hs hQ hml hl.1 0 (fX11_isTideHour l g ad hD S hX a1) mX11_isTideHour q874 (by decide) c_1 rfl rfl ⟨by decide, by decide⟩ ⟨by decide, by decide⟩ (by decide) rfl dX11_slacks_2 (fun r2 S2 H locs hp2 hQ _ => ?_)
  obtain ⟨rfl, rfl⟩ := hp2
  refine lv_if_eq (tgt := 22) hx hb dX11_slacks_5 (by decide) (fun k_3 => ?_) (fun k_3 => absurd k_3 (by decide))
  refine lv_bipush (v := (-2)) hx hb dX11_slacks_22 (by decide) ?_
  exact xri E hr hlk hQ (⟨rfl, rfl⟩) dX11_slacks_24
set_option maxHeartbeats 4000000 in
set_option maxRecDepth 100000 in
theorem fX11_drifts (l : Launch) (g : GG) (ad : Nat → Nat) (hD : Dj ad 122) (S : SS) (hX : ∀ i, i < 122 → S i = X0 g ad i) (a1 : Int32) (a2 : Int32) : Met l yX11_drifts (wG (.code yX11_drifts cX11_drifts 3 (some .int))) (Rm 1) (XPre g ad 122 S [.ref (ad 0), .int a1, .int a2]) (va_Qi (fun r S' => S = S' ∧ r = (-2)) (QB g ad 122) (FA ad 122)) 0 0 (FA ad 122) := by
  refine xmet cX11_drifts "EbbWreck" (by decide) rfl (Nat.le_of_ble_eq_true rfl) (fun p e s m below meth c E hr hlk hml hQ ls hl => ?_)
  have hx := E.1
  have hb := E.2.1
  have hs : Sp ad 122 (FA ad 122) := Sp.fa hD
  have hl : lv_has ls 3 [(0, .ref (ad 0)), (1, .int a1), (2, .int a2)] := hl
  refine lv_aload_n hx hb dX11_drifts_0 rfl (lv_at hl 0 rfl) ?_
  have c_1 : S 0 = .inr (11, [.ref (ad 1), .int 0, .int 0, .int (-1), .ref (ad 2), .ref (ad 20), .ref (ad 38), .ref (ad 93), .ref (ad 94), .ref (ad 95), .ref (ad 102), .ref (ad 104), .ref (ad 107), .ref (ad 111), .ref (ad 119)]) := (hX 0 (by decide))
  refine xget E hQ 0 (by decide) c_1 rfl 4 (by decide) q520 rfl dX11_drifts_1 ?_
  refine lv_iload_n hx hb dX11_drifts_4 rfl (lv_at hl 1 rfl) ?_
  have c_2 : S 2 = .inr (1, [.int 0, .int 0, .int 0, .ref (ad 3), .ref (ad 5), .ref (ad 6), .int 0, .int 0, .ref (ad 7), .ref (ad 8), .ref (ad 9), .ref (ad 10), .int 0, .ref (ad 15), .ref (ad 16)]) := (hX 2 (by decide))
  refine xcVi E hs hQ hml hl.1 2 (fX1_hasCell l g ad hD S hX a1) mX1_hasCell q823 (by decide) c_2 rfl rfl ⟨by decide, by decide⟩ ⟨by decide, by decide⟩ (by decide) rfl dX11_drifts_5 (fun r3 S3 H locs hp3 hQ _ => ?_)
  obtain ⟨rfl, rfl⟩ := hp3
  refine lv_if_eq (tgt := 19) hx hb dX11_drifts_8 (by decide) (fun k_4 => ?_) (fun k_4 => absurd k_4 (by decide))
  refine lv_bipush (v := (-2)) hx hb dX11_drifts_19 (by decide) ?_
  exact xri E hr hlk hQ (⟨rfl, rfl⟩) dX11_drifts_21
set_option maxHeartbeats 4000000 in
set_option maxRecDepth 100000 in
theorem fX11_at (l : Launch) (g : GG) (ad : Nat → Nat) (hD : Dj ad 122) (S : SS) (hX : ∀ i, i < 122 → S i = X0 g ad i) (a1 : Int32) (a2 : Int32) : Met l yX11_at (wG (.code yX11_at cX11_at 3 (some .int))) (Rm 1) (XPre g ad 122 S [.ref (ad 0), .int a1, .int a2]) (va_Qi (fun r S' => S = S' ∧ r = (-2)) (QB g ad 122) (FA ad 122)) 0 0 (FA ad 122) := by
  refine xmet cX11_at "EbbWreck" (by decide) rfl (Nat.le_of_ble_eq_true rfl) (fun p e s m below meth c E hr hlk hml hQ ls hl => ?_)
  have hx := E.1
  have hb := E.2.1
  have hs : Sp ad 122 (FA ad 122) := Sp.fa hD
  have hl : lv_has ls 3 [(0, .ref (ad 0)), (1, .int a1), (2, .int a2)] := hl
  refine lv_aload_n hx hb dX11_at_0 rfl (lv_at hl 0 rfl) ?_
  have c_1 : S 0 = .inr (11, [.ref (ad 1), .int 0, .int 0, .int (-1), .ref (ad 2), .ref (ad 20), .ref (ad 38), .ref (ad 93), .ref (ad 94), .ref (ad 95), .ref (ad 102), .ref (ad 104), .ref (ad 107), .ref (ad 111), .ref (ad 119)]) := (hX 0 (by decide))
  refine xget E hQ 0 (by decide) c_1 rfl 4 (by decide) q520 rfl dX11_at_1 ?_
  refine lv_iload_n hx hb dX11_at_4 rfl (lv_at hl 1 rfl) ?_
  have c_2 : S 2 = .inr (1, [.int 0, .int 0, .int 0, .ref (ad 3), .ref (ad 5), .ref (ad 6), .int 0, .int 0, .ref (ad 7), .ref (ad 8), .ref (ad 9), .ref (ad 10), .int 0, .ref (ad 15), .ref (ad 16)]) := (hX 2 (by decide))
  refine xcVi E hs hQ hml hl.1 2 (fX1_hasThing l g ad hD S hX a1) mX1_hasThing q832 (by decide) c_2 rfl rfl ⟨by decide, by decide⟩ ⟨by decide, by decide⟩ (by decide) rfl dX11_at_5 (fun r3 S3 H locs hp3 hQ _ => ?_)
  obtain ⟨rfl, rfl⟩ := hp3
  refine lv_if_eq (tgt := 21) hx hb dX11_at_8 (by decide) (fun k_4 => ?_) (fun k_4 => absurd k_4 (by decide))
  refine lv_bipush (v := (-2)) hx hb dX11_at_21 (by decide) ?_
  exact xri E hr hlk hQ (⟨rfl, rfl⟩) dX11_at_23
set_option maxHeartbeats 4000000 in
set_option maxRecDepth 100000 in
theorem fX11_comes (l : Launch) (g : GG) (ad : Nat → Nat) (hD : Dj ad 122) (S : SS) (hX : ∀ i, i < 122 → S i = X0 g ad i) (a1 : Int32) : Met l yX11_comes (wG (.code yX11_comes cX11_comes 2 (some .int))) (Rm 1) (XPre g ad 122 S [.ref (ad 0), .int a1]) (va_Qi (fun r S' => S = S' ∧ r = (-2)) (QB g ad 122) (FA ad 122)) 0 0 (FA ad 122) := by
  refine xmet cX11_comes "EbbWreck" (by decide) rfl (Nat.le_of_ble_eq_true rfl) (fun p e s m below meth c E hr hlk hml hQ ls hl => ?_)
  have hx := E.1
  have hb := E.2.1
  have hs : Sp ad 122 (FA ad 122) := Sp.fa hD
  have hl : lv_has ls 2 [(0, .ref (ad 0)), (1, .int a1)] := hl
  refine lv_aload_n hx hb dX11_comes_0 rfl (lv_at hl 0 rfl) ?_
  have c_1 : S 0 = .inr (11, [.ref (ad 1), .int 0, .int 0, .int (-1), .ref (ad 2), .ref (ad 20), .ref (ad 38), .ref (ad 93), .ref (ad 94), .ref (ad 95), .ref (ad 102), .ref (ad 104), .ref (ad 107), .ref (ad 111), .ref (ad 119)]) := (hX 0 (by decide))
  refine xget E hQ 0 (by decide) c_1 rfl 4 (by decide) q520 rfl dX11_comes_1 ?_
  refine lv_iload_n hx hb dX11_comes_4 rfl (lv_at hl 1 rfl) ?_
  have c_2 : S 2 = .inr (1, [.int 0, .int 0, .int 0, .ref (ad 3), .ref (ad 5), .ref (ad 6), .int 0, .int 0, .ref (ad 7), .ref (ad 8), .ref (ad 9), .ref (ad 10), .int 0, .ref (ad 15), .ref (ad 16)]) := (hX 2 (by decide))
  refine xcVi E hs hQ hml hl.1 2 (fX1_hasThing l g ad hD S hX a1) mX1_hasThing q832 (by decide) c_2 rfl rfl ⟨by decide, by decide⟩ ⟨by decide, by decide⟩ (by decide) rfl dX11_comes_5 (fun r3 S3 H locs hp3 hQ _ => ?_)
  obtain ⟨rfl, rfl⟩ := hp3
  refine lv_if_eq (tgt := 23) hx hb dX11_comes_8 (by decide) (fun k_4 => ?_) (fun k_4 => absurd k_4 (by decide))
  refine lv_bipush (v := (-2)) hx hb dX11_comes_23 (by decide) ?_
  exact xri E hr hlk hQ (⟨rfl, rfl⟩) dX11_comes_25
set_option maxHeartbeats 4000000 in
set_option maxRecDepth 100000 in
theorem fX11_beach (l : Launch) (g : GG) (ad : Nat → Nat) (hD : Dj ad 122) (S : SS) (hX : ∀ i, i < 122 → S i = X0 g ad i) (a1 : Int32) : Met l yX11_beach (wG (.code yX11_beach cX11_beach 2 (some .int))) (Rm 1) (XPre g ad 122 S [.ref (ad 0), .int a1]) (va_Qi (fun r S' => S = S' ∧ r = (-2)) (QB g ad 122) (FA ad 122)) 0 0 (FA ad 122) := by
  refine xmet cX11_beach "EbbWreck" (by decide) rfl (Nat.le_of_ble_eq_true rfl) (fun p e s m below meth c E hr hlk hml hQ ls hl => ?_)
  have hx := E.1
  have hb := E.2.1
  have hs : Sp ad 122 (FA ad 122) := Sp.fa hD
  have hl : lv_has ls 2 [(0, .ref (ad 0)), (1, .int a1)] := hl
  refine lv_aload_n hx hb dX11_beach_0 rfl (lv_at hl 0 rfl) ?_
  have c_1 : S 0 = .inr (11, [.ref (ad 1), .int 0, .int 0, .int (-1), .ref (ad 2), .ref (ad 20), .ref (ad 38), .ref (ad 93), .ref (ad 94), .ref (ad 95), .ref (ad 102), .ref (ad 104), .ref (ad 107), .ref (ad 111), .ref (ad 119)]) := (hX 0 (by decide))
  refine xget E hQ 0 (by decide) c_1 rfl 4 (by decide) q520 rfl dX11_beach_1 ?_
  refine lv_iload_n hx hb dX11_beach_4 rfl (lv_at hl 1 rfl) ?_
  have c_2 : S 2 = .inr (1, [.int 0, .int 0, .int 0, .ref (ad 3), .ref (ad 5), .ref (ad 6), .int 0, .int 0, .ref (ad 7), .ref (ad 8), .ref (ad 9), .ref (ad 10), .int 0, .ref (ad 15), .ref (ad 16)]) := (hX 2 (by decide))
  refine xcVi E hs hQ hml hl.1 2 (fX1_hasThing l g ad hD S hX a1) mX1_hasThing q832 (by decide) c_2 rfl rfl ⟨by decide, by decide⟩ ⟨by decide, by decide⟩ (by decide) rfl dX11_beach_5 (fun r3 S3 H locs hp3 hQ _ => ?_)
  obtain ⟨rfl, rfl⟩ := hp3
  refine lv_if_eq (tgt := 23) hx hb dX11_beach_8 (by decide) (fun k_4 => ?_) (fun k_4 => absurd k_4 (by decide))
  refine lv_bipush (v := (-2)) hx hb dX11_beach_23 (by decide) ?_
  exact xri E hr hlk hQ (⟨rfl, rfl⟩) dX11_beach_25
set_option maxHeartbeats 4000000 in
set_option maxRecDepth 100000 in
theorem fX11_whose (l : Launch) (g : GG) (ad : Nat → Nat) (hD : Dj ad 122) (S : SS) (hX : ∀ i, i < 122 → S i = X0 g ad i) (a1 : Int32) : Met l yX11_whose (wG (.code yX11_whose cX11_whose 2 (some .int))) (Rm 1) (XPre g ad 122 S [.ref (ad 0), .int a1]) (va_Qi (fun r S' => S = S' ∧ r = (-2)) (QB g ad 122) (FA ad 122)) 0 0 (FA ad 122) := by
  refine xmet cX11_whose "EbbWreck" (by decide) rfl (Nat.le_of_ble_eq_true rfl) (fun p e s m below meth c E hr hlk hml hQ ls hl => ?_)
  have hx := E.1
  have hb := E.2.1
  have hs : Sp ad 122 (FA ad 122) := Sp.fa hD
  have hl : lv_has ls 2 [(0, .ref (ad 0)), (1, .int a1)] := hl
  refine lv_aload_n hx hb dX11_whose_0 rfl (lv_at hl 0 rfl) ?_
  have c_1 : S 0 = .inr (11, [.ref (ad 1), .int 0, .int 0, .int (-1), .ref (ad 2), .ref (ad 20), .ref (ad 38), .ref (ad 93), .ref (ad 94), .ref (ad 95), .ref (ad 102), .ref (ad 104), .ref (ad 107), .ref (ad 111), .ref (ad 119)]) := (hX 0 (by decide))
  refine xget E hQ 0 (by decide) c_1 rfl 4 (by decide) q520 rfl dX11_whose_1 ?_
  refine lv_iload_n hx hb dX11_whose_4 rfl (lv_at hl 1 rfl) ?_
  have c_2 : S 2 = .inr (1, [.int 0, .int 0, .int 0, .ref (ad 3), .ref (ad 5), .ref (ad 6), .int 0, .int 0, .ref (ad 7), .ref (ad 8), .ref (ad 9), .ref (ad 10), .int 0, .ref (ad 15), .ref (ad 16)]) := (hX 2 (by decide))
  refine xcVi E hs hQ hml hl.1 2 (fX1_hasThing l g ad hD S hX a1) mX1_hasThing q832 (by decide) c_2 rfl rfl ⟨by decide, by decide⟩ ⟨by decide, by decide⟩ (by decide) rfl dX11_whose_5 (fun r3 S3 H locs hp3 hQ _ => ?_)
  obtain ⟨rfl, rfl⟩ := hp3
  refine lv_if_eq (tgt := 24) hx hb dX11_whose_8 (by decide) (fun k_4 => ?_) (fun k_4 => absurd k_4 (by decide))
  refine lv_bipush (v := (-2)) hx hb dX11_whose_24 (by decide) ?_
  exact xri E hr hlk hQ (⟨rfl, rfl⟩) dX11_whose_26
set_option maxHeartbeats 4000000 in
set_option maxRecDepth 100000 in
theorem fX11_has (l : Launch) (g : GG) (ad : Nat → Nat) (hD : Dj ad 122) (S : SS) (hX : ∀ i, i < 122 → S i = X0 g ad i) (a1 : Int32) : Met l yX11_has (wG (.code yX11_has cX11_has 2 (some .int))) (Rm 2) (XPre g ad 122 S [.ref (ad 0), .int a1]) (va_Qi (fun r S' => S = S' ∧ r = (-2)) (QB g ad 122) (FA ad 122)) 0 0 (FA ad 122) := by
  refine xmet cX11_has "EbbWreck" (by decide) rfl (Nat.le_of_ble_eq_true rfl) (fun p e s m below meth c E hr hlk hml hQ ls hl => ?_)
  have hx := E.1
  have hb := E.2.1
  have hs : Sp ad 122 (FA ad 122) := Sp.fa hD
  have hl : lv_has ls 2 [(0, .ref (ad 0)), (1, .int a1)] := hl
  refine lv_aload_n hx hb dX11_has_0 rfl (lv_at hl 0 rfl) ?_
  refine lv_iload_n hx hb dX11_has_1 rfl (lv_at hl 1 rfl) ?_
  have c_1 : S 0 = .inr (11, [.ref (ad 1), .int 0, .int 0, .int (-1), .ref (ad 2), .ref (ad 20), .ref (ad 38), .ref (ad 93), .ref (ad 94), .ref (ad 95), .ref (ad 102), .ref (ad 104), .ref (ad 107), .ref (ad 111), .ref (ad 119)]) := (hX 0 (by decide))
  refine xcVi E hs hQ hml hl.1 0 (fX11_isAskedParty l g ad hD S hX a1) mX11_isAskedParty q963 (by decide) c_1 rfl rfl ⟨by decide, by decide⟩ ⟨by decide, by decide⟩ (by decide) rfl dX11_has_2 (fun r2 S2 H locs hp2 hQ _ => ?_)
  obtain ⟨rfl, rfl⟩ := hp2
  refine lv_if_eq (tgt := 21) hx hb dX11_has_5 (by decide) (fun k_3 => ?_) (fun k_3 => absurd k_3 (by decide))
  refine lv_bipush (v := (-2)) hx hb dX11_has_21 (by decide) ?_
  exact xri E hr hlk hQ (⟨rfl, rfl⟩) dX11_has_23
set_option maxHeartbeats 4000000 in
set_option maxRecDepth 100000 in
theorem fX11_line (l : Launch) (g : GG) (ad : Nat → Nat) (hD : Dj ad 122) (S : SS) (hX : ∀ i, i < 122 → S i = X0 g ad i) (a1 : Int32) : Met l yX11_line (wG (.code yX11_line cX11_line 2 (some .int))) (Rm 1) (XPre g ad 122 S [.ref (ad 0), .int a1]) (va_Qi (fun r S' => S = S' ∧ r = (-2)) (QB g ad 122) (FA ad 122)) 0 0 (FA ad 122) := by
  refine xmet cX11_line "EbbWreck" (by decide) rfl (Nat.le_of_ble_eq_true rfl) (fun p e s m below meth c E hr hlk hml hQ ls hl => ?_)
  have hx := E.1
  have hb := E.2.1
  have hs : Sp ad 122 (FA ad 122) := Sp.fa hD
  have hl : lv_has ls 2 [(0, .ref (ad 0)), (1, .int a1)] := hl
  refine lv_aload_n hx hb dX11_line_0 rfl (lv_at hl 0 rfl) ?_
  have c_1 : S 0 = .inr (11, [.ref (ad 1), .int 0, .int 0, .int (-1), .ref (ad 2), .ref (ad 20), .ref (ad 38), .ref (ad 93), .ref (ad 94), .ref (ad 95), .ref (ad 102), .ref (ad 104), .ref (ad 107), .ref (ad 111), .ref (ad 119)]) := (hX 0 (by decide))
  refine xget E hQ 0 (by decide) c_1 rfl 4 (by decide) q520 rfl dX11_line_1 ?_
  refine lv_iload_n hx hb dX11_line_4 rfl (lv_at hl 1 rfl) ?_
  have c_2 : S 2 = .inr (1, [.int 0, .int 0, .int 0, .ref (ad 3), .ref (ad 5), .ref (ad 6), .int 0, .int 0, .ref (ad 7), .ref (ad 8), .ref (ad 9), .ref (ad 10), .int 0, .ref (ad 15), .ref (ad 16)]) := (hX 2 (by decide))
  refine xcVi E hs hQ hml hl.1 2 (fX1_hasCell l g ad hD S hX a1) mX1_hasCell q823 (by decide) c_2 rfl rfl ⟨by decide, by decide⟩ ⟨by decide, by decide⟩ (by decide) rfl dX11_line_5 (fun r3 S3 H locs hp3 hQ _ => ?_)
  obtain ⟨rfl, rfl⟩ := hp3
  refine lv_if_eq (tgt := 22) hx hb dX11_line_8 (by decide) (fun k_4 => ?_) (fun k_4 => absurd k_4 (by decide))
  refine lv_bipush (v := (-2)) hx hb dX11_line_22 (by decide) ?_
  exact xri E hr hlk hQ (⟨rfl, rfl⟩) dX11_line_24
set_option maxHeartbeats 4000000 in
set_option maxRecDepth 100000 in
theorem fX11_richest (l : Launch) (g : GG) (ad : Nat → Nat) (hD : Dj ad 122) (S : SS) (hX : ∀ i, i < 122 → S i = X0 g ad i) : Met l yX11_richest (wG (.code yX11_richest cX11_richest 5 (some .int))) (Rm 1) (XPre g ad 122 S [.ref (ad 0)]) (va_Qi (fun r S' => S = S' ∧ r = (-2)) (QB g ad 122) (FA ad 122)) 0 0 (FA ad 122) := by
  refine xmet cX11_richest "EbbWreck" (by decide) rfl (Nat.le_of_ble_eq_true rfl) (fun p e s m below meth c E hr hlk hml hQ ls hl => ?_)
  have hx := E.1
  have hb := E.2.1
  have hs : Sp ad 122 (FA ad 122) := Sp.fa hD
  have hl : lv_has ls 5 [(0, .ref (ad 0))] := hl
  refine lv_aload_n hx hb dX11_richest_0 rfl (lv_at hl 0 rfl) ?_
  have c_1 : S 0 = .inr (11, [.ref (ad 1), .int 0, .int 0, .int (-1), .ref (ad 2), .ref (ad 20), .ref (ad 38), .ref (ad 93), .ref (ad 94), .ref (ad 95), .ref (ad 102), .ref (ad 104), .ref (ad 107), .ref (ad 111), .ref (ad 119)]) := (hX 0 (by decide))
  refine xget E hQ 0 (by decide) c_1 rfl 4 (by decide) q520 rfl dX11_richest_1 ?_
  have c_2 : S 2 = .inr (1, [.int 0, .int 0, .int 0, .ref (ad 3), .ref (ad 5), .ref (ad 6), .int 0, .int 0, .ref (ad 7), .ref (ad 8), .ref (ad 9), .ref (ad 10), .int 0, .ref (ad 15), .ref (ad 16)]) := (hX 2 (by decide))
  refine xcVi E hs hQ hml hl.1 2 (fX1_isTold l g ad hD S hX ) mX1_isTold q878 (by decide) c_2 rfl rfl ⟨by decide, by decide⟩ ⟨by decide, by decide⟩ (by decide) rfl dX11_richest_4 (fun r3 S3 H locs hp3 hQ _ => ?_)
  obtain ⟨rfl, rfl⟩ := hp3
  refine lv_if_ne (tgt := 13) hx hb dX11_richest_7 (by decide) (fun k_4 => absurd k_4 (by decide)) (fun k_4 => ?_)
  refine lv_bipush (v := (-2)) hx hb dX11_richest_10 (by decide) ?_
  exact xri E hr hlk hQ (⟨rfl, rfl⟩) dX11_richest_12
set_option maxHeartbeats 4000000 in
set_option maxRecDepth 100000 in
theorem fX11_meet (l : Launch) (g : GG) (ad : Nat → Nat) (hD : Dj ad 122) (S : SS) (hX : ∀ i, i < 122 → S i = X0 g ad i) (a1 : Int32) (a2 : Int32) : Met l yX11_meet (wG (.code yX11_meet cX11_meet 3 (some .int))) (Rm 1) (XPre g ad 122 S [.ref (ad 0), .int a1, .int a2]) (va_Qi (fun r S' => S = S' ∧ r = (-2)) (QB g ad 122) (FA ad 122)) 0 0 (FA ad 122) := by
  refine xmet cX11_meet "EbbWreck" (by decide) rfl (Nat.le_of_ble_eq_true rfl) (fun p e s m below meth c E hr hlk hml hQ ls hl => ?_)
  have hx := E.1
  have hb := E.2.1
  have hs : Sp ad 122 (FA ad 122) := Sp.fa hD
  have hl : lv_has ls 3 [(0, .ref (ad 0)), (1, .int a1), (2, .int a2)] := hl
  refine lv_aload_n hx hb dX11_meet_0 rfl (lv_at hl 0 rfl) ?_
  have c_1 : S 0 = .inr (11, [.ref (ad 1), .int 0, .int 0, .int (-1), .ref (ad 2), .ref (ad 20), .ref (ad 38), .ref (ad 93), .ref (ad 94), .ref (ad 95), .ref (ad 102), .ref (ad 104), .ref (ad 107), .ref (ad 111), .ref (ad 119)]) := (hX 0 (by decide))
  refine xget E hQ 0 (by decide) c_1 rfl 4 (by decide) q520 rfl dX11_meet_1 ?_
  refine lv_iload_n hx hb dX11_meet_4 rfl (lv_at hl 1 rfl) ?_
  have c_2 : S 2 = .inr (1, [.int 0, .int 0, .int 0, .ref (ad 3), .ref (ad 5), .ref (ad 6), .int 0, .int 0, .ref (ad 7), .ref (ad 8), .ref (ad 9), .ref (ad 10), .int 0, .ref (ad 15), .ref (ad 16)]) := (hX 2 (by decide))
  refine xcVi E hs hQ hml hl.1 2 (fX1_hasThing l g ad hD S hX a1) mX1_hasThing q832 (by decide) c_2 rfl rfl ⟨by decide, by decide⟩ ⟨by decide, by decide⟩ (by decide) rfl dX11_meet_5 (fun r3 S3 H locs hp3 hQ _ => ?_)
  obtain ⟨rfl, rfl⟩ := hp3
  refine lv_if_eq (tgt := 27) hx hb dX11_meet_8 (by decide) (fun k_4 => ?_) (fun k_4 => absurd k_4 (by decide))
  refine lv_bipush (v := (-2)) hx hb dX11_meet_27 (by decide) ?_
  exact xri E hr hlk hQ (⟨rfl, rfl⟩) dX11_meet_29
set_option maxHeartbeats 4000000 in
set_option maxRecDepth 100000 in
theorem fX11_argued (l : Launch) (g : GG) (ad : Nat → Nat) (hD : Dj ad 122) (S : SS) (hX : ∀ i, i < 122 → S i = X0 g ad i) : Met l yX11_argued (wG (.code yX11_argued cX11_argued 1 (some .int))) (Rm 1) (XPre g ad 122 S [.ref (ad 0)]) (va_Qi (fun r S' => S = S' ∧ r = (-2)) (QB g ad 122) (FA ad 122)) 0 0 (FA ad 122) := by
  refine xmet cX11_argued "EbbWreck" (by decide) rfl (Nat.le_of_ble_eq_true rfl) (fun p e s m below meth c E hr hlk hml hQ ls hl => ?_)
  have hx := E.1
  have hb := E.2.1
  have hs : Sp ad 122 (FA ad 122) := Sp.fa hD
  have hl : lv_has ls 1 [(0, .ref (ad 0))] := hl
  refine lv_aload_n hx hb dX11_argued_0 rfl (lv_at hl 0 rfl) ?_
  have c_1 : S 0 = .inr (11, [.ref (ad 1), .int 0, .int 0, .int (-1), .ref (ad 2), .ref (ad 20), .ref (ad 38), .ref (ad 93), .ref (ad 94), .ref (ad 95), .ref (ad 102), .ref (ad 104), .ref (ad 107), .ref (ad 111), .ref (ad 119)]) := (hX 0 (by decide))
  refine xget E hQ 0 (by decide) c_1 rfl 4 (by decide) q520 rfl dX11_argued_1 ?_
  have c_2 : S 2 = .inr (1, [.int 0, .int 0, .int 0, .ref (ad 3), .ref (ad 5), .ref (ad 6), .int 0, .int 0, .ref (ad 7), .ref (ad 8), .ref (ad 9), .ref (ad 10), .int 0, .ref (ad 15), .ref (ad 16)]) := (hX 2 (by decide))
  refine xcVi E hs hQ hml hl.1 2 (fX1_isTold l g ad hD S hX ) mX1_isTold q878 (by decide) c_2 rfl rfl ⟨by decide, by decide⟩ ⟨by decide, by decide⟩ (by decide) rfl dX11_argued_4 (fun r3 S3 H locs hp3 hQ _ => ?_)
  obtain ⟨rfl, rfl⟩ := hp3
  refine lv_if_eq (tgt := 20) hx hb dX11_argued_7 (by decide) (fun k_4 => ?_) (fun k_4 => absurd k_4 (by decide))
  refine lv_bipush (v := (-2)) hx hb dX11_argued_20 (by decide) ?_
  exact xri E hr hlk hQ (⟨rfl, rfl⟩) dX11_argued_22
set_option maxHeartbeats 4000000 in
set_option maxRecDepth 100000 in
theorem fX11_gaps (l : Launch) (g : GG) (ad : Nat → Nat) (hD : Dj ad 122) (S : SS) (hX : ∀ i, i < 122 → S i = X0 g ad i) (a1 : Int32) : Met l yX11_gaps (wG (.code yX11_gaps cX11_gaps 4 (some .int))) (Rm 1) (XPre g ad 122 S [.ref (ad 0), .int a1]) (va_Qi (fun r S' => S = S' ∧ r = (-2)) (QB g ad 122) (FA ad 122)) 0 0 (FA ad 122) := by
  refine xmet cX11_gaps "EbbWreck" (by decide) rfl (Nat.le_of_ble_eq_true rfl) (fun p e s m below meth c E hr hlk hml hQ ls hl => ?_)
  have hx := E.1
  have hb := E.2.1
  have hs : Sp ad 122 (FA ad 122) := Sp.fa hD
  have hl : lv_has ls 4 [(0, .ref (ad 0)), (1, .int a1)] := hl
  refine lv_aload_n hx hb dX11_gaps_0 rfl (lv_at hl 0 rfl) ?_
  have c_1 : S 0 = .inr (11, [.ref (ad 1), .int 0, .int 0, .int (-1), .ref (ad 2), .ref (ad 20), .ref (ad 38), .ref (ad 93), .ref (ad 94), .ref (ad 95), .ref (ad 102), .ref (ad 104), .ref (ad 107), .ref (ad 111), .ref (ad 119)]) := (hX 0 (by decide))
  refine xget E hQ 0 (by decide) c_1 rfl 4 (by decide) q520 rfl dX11_gaps_1 ?_
  have c_2 : S 2 = .inr (1, [.int 0, .int 0, .int 0, .ref (ad 3), .ref (ad 5), .ref (ad 6), .int 0, .int 0, .ref (ad 7), .ref (ad 8), .ref (ad 9), .ref (ad 10), .int 0, .ref (ad 15), .ref (ad 16)]) := (hX 2 (by decide))
  refine xcVi E hs hQ hml hl.1 2 (fX1_isTold l g ad hD S hX ) mX1_isTold q878 (by decide) c_2 rfl rfl ⟨by decide, by decide⟩ ⟨by decide, by decide⟩ (by decide) rfl dX11_gaps_4 (fun r3 S3 H locs hp3 hQ _ => ?_)
  obtain ⟨rfl, rfl⟩ := hp3
  refine lv_if_eq (tgt := 17) hx hb dX11_gaps_7 (by decide) (fun k_4 => ?_) (fun k_4 => absurd k_4 (by decide))
  refine lv_bipush (v := (-2)) hx hb dX11_gaps_17 (by decide) ?_
  exact xri E hr hlk hQ (⟨rfl, rfl⟩) dX11_gaps_19
set_option maxHeartbeats 4000000 in
set_option maxRecDepth 100000 in
theorem fX11_idle (l : Launch) (g : GG) (ad : Nat → Nat) (hD : Dj ad 122) (S : SS) (hX : ∀ i, i < 122 → S i = X0 g ad i) : Met l yX11_idle (wG (.code yX11_idle cX11_idle 5 (some .int))) (Rm 1) (XPre g ad 122 S [.ref (ad 0)]) (va_Qi (fun r S' => S = S' ∧ r = (-2)) (QB g ad 122) (FA ad 122)) 0 0 (FA ad 122) := by
  refine xmet cX11_idle "EbbWreck" (by decide) rfl (Nat.le_of_ble_eq_true rfl) (fun p e s m below meth c E hr hlk hml hQ ls hl => ?_)
  have hx := E.1
  have hb := E.2.1
  have hs : Sp ad 122 (FA ad 122) := Sp.fa hD
  have hl : lv_has ls 5 [(0, .ref (ad 0))] := hl
  refine lv_aload_n hx hb dX11_idle_0 rfl (lv_at hl 0 rfl) ?_
  have c_1 : S 0 = .inr (11, [.ref (ad 1), .int 0, .int 0, .int (-1), .ref (ad 2), .ref (ad 20), .ref (ad 38), .ref (ad 93), .ref (ad 94), .ref (ad 95), .ref (ad 102), .ref (ad 104), .ref (ad 107), .ref (ad 111), .ref (ad 119)]) := (hX 0 (by decide))
  refine xget E hQ 0 (by decide) c_1 rfl 4 (by decide) q520 rfl dX11_idle_1 ?_
  have c_2 : S 2 = .inr (1, [.int 0, .int 0, .int 0, .ref (ad 3), .ref (ad 5), .ref (ad 6), .int 0, .int 0, .ref (ad 7), .ref (ad 8), .ref (ad 9), .ref (ad 10), .int 0, .ref (ad 15), .ref (ad 16)]) := (hX 2 (by decide))
  refine xcVi E hs hQ hml hl.1 2 (fX1_isTold l g ad hD S hX ) mX1_isTold q878 (by decide) c_2 rfl rfl ⟨by decide, by decide⟩ ⟨by decide, by decide⟩ (by decide) rfl dX11_idle_4 (fun r3 S3 H locs hp3 hQ _ => ?_)
  obtain ⟨rfl, rfl⟩ := hp3
  refine lv_if_ne (tgt := 13) hx hb dX11_idle_7 (by decide) (fun k_4 => absurd k_4 (by decide)) (fun k_4 => ?_)
  refine lv_bipush (v := (-2)) hx hb dX11_idle_10 (by decide) ?_
  exact xri E hr hlk hQ (⟨rfl, rfl⟩) dX11_idle_12
set_option maxHeartbeats 4000000 in
set_option maxRecDepth 100000 in
theorem fX11_without (l : Launch) (g : GG) (ad : Nat → Nat) (hD : Dj ad 122) (S : SS) (hX : ∀ i, i < 122 → S i = X0 g ad i) (a1 : Int32) (a2 : Int32) : Met l yX11_without (wG (.code yX11_without cX11_without 3 (some .int))) (Rm 1) (XPre g ad 122 S [.ref (ad 0), .int a1, .int a2]) (va_Qi (fun r S' => S = S' ∧ r = (-2)) (QB g ad 122) (FA ad 122)) 0 0 (FA ad 122) := by
  refine xmet cX11_without "EbbWreck" (by decide) rfl (Nat.le_of_ble_eq_true rfl) (fun p e s m below meth c E hr hlk hml hQ ls hl => ?_)
  have hx := E.1
  have hb := E.2.1
  have hs : Sp ad 122 (FA ad 122) := Sp.fa hD
  have hl : lv_has ls 3 [(0, .ref (ad 0)), (1, .int a1), (2, .int a2)] := hl
  refine lv_aload_n hx hb dX11_without_0 rfl (lv_at hl 0 rfl) ?_
  have c_1 : S 0 = .inr (11, [.ref (ad 1), .int 0, .int 0, .int (-1), .ref (ad 2), .ref (ad 20), .ref (ad 38), .ref (ad 93), .ref (ad 94), .ref (ad 95), .ref (ad 102), .ref (ad 104), .ref (ad 107), .ref (ad 111), .ref (ad 119)]) := (hX 0 (by decide))
  refine xget E hQ 0 (by decide) c_1 rfl 4 (by decide) q520 rfl dX11_without_1 ?_
  have c_2 : S 2 = .inr (1, [.int 0, .int 0, .int 0, .ref (ad 3), .ref (ad 5), .ref (ad 6), .int 0, .int 0, .ref (ad 7), .ref (ad 8), .ref (ad 9), .ref (ad 10), .int 0, .ref (ad 15), .ref (ad 16)]) := (hX 2 (by decide))
  refine xget E hQ 2 (by decide) c_2 rfl 11 (by decide) q290 rfl dX11_without_4 ?_
  refine lv_iload_n hx hb dX11_without_7 rfl (lv_at hl 1 rfl) ?_
  have c_3 : S 10 = .inr (6, [.int 0, .ref (ad 11), .ref (ad 12), .ref (ad 13), .ref (ad 14)]) := (hX 10 (by decide))
  refine xcVi E hs hQ hml hl.1 10 (fX6_hasRule l g ad hD S hX a1) mX6_hasRule q840 (by decide) c_3 rfl rfl ⟨by decide, by decide⟩ ⟨by decide, by decide⟩ (by decide) rfl dX11_without_8 (fun r4 S4 H locs hp4 hQ _ => ?_)
  obtain ⟨rfl, rfl⟩ := hp4
  refine lv_if_eq (tgt := 22) hx hb dX11_without_11 (by decide) (fun k_5 => ?_) (fun k_5 => absurd k_5 (by decide))
  refine lv_bipush (v := (-2)) hx hb dX11_without_22 (by decide) ?_
  exact xri E hr hlk hQ (⟨rfl, rfl⟩) dX11_without_24
set_option maxHeartbeats 4000000 in
set_option maxRecDepth 100000 in
theorem fX11_strike (l : Launch) (g : GG) (ad : Nat → Nat) (hD : Dj ad 122) (S : SS) (hX : ∀ i, i < 122 → S i = X0 g ad i) (a1 : Int32) : Met l yX11_strike (wG (.code yX11_strike cX11_strike 6 (some .int))) (Rm 2) (XPre g ad 122 S [.ref (ad 0), .int a1]) (va_Qi (fun r S' => S = S' ∧ r = (-2)) (QB g ad 122) (FA ad 122)) 0 0 (FA ad 122) := by
  refine xmet cX11_strike "EbbWreck" (by decide) rfl (Nat.le_of_ble_eq_true rfl) (fun p e s m below meth c E hr hlk hml hQ ls hl => ?_)
  have hx := E.1
  have hb := E.2.1
  have hs : Sp ad 122 (FA ad 122) := Sp.fa hD
  have hl : lv_has ls 6 [(0, .ref (ad 0)), (1, .int a1)] := hl
  refine lv_aload_n hx hb dX11_strike_0 rfl (lv_at hl 0 rfl) ?_
  refine lv_iload_n hx hb dX11_strike_1 rfl (lv_at hl 1 rfl) ?_
  have c_1 : S 0 = .inr (11, [.ref (ad 1), .int 0, .int 0, .int (-1), .ref (ad 2), .ref (ad 20), .ref (ad 38), .ref (ad 93), .ref (ad 94), .ref (ad 95), .ref (ad 102), .ref (ad 104), .ref (ad 107), .ref (ad 111), .ref (ad 119)]) := (hX 0 (by decide))
  refine xcVi E hs hQ hml hl.1 0 (fX11_isAskedParty l g ad hD S hX a1) mX11_isAskedParty q963 (by decide) c_1 rfl rfl ⟨by decide, by decide⟩ ⟨by decide, by decide⟩ (by decide) rfl dX11_strike_2 (fun r2 S2 H locs hp2 hQ _ => ?_)
  obtain ⟨rfl, rfl⟩ := hp2
  refine lv_if_ne (tgt := 11) hx hb dX11_strike_5 (by decide) (fun k_3 => absurd k_3 (by decide)) (fun k_3 => ?_)
  refine lv_bipush (v := (-2)) hx hb dX11_strike_8 (by decide) ?_
  exact xri E hr hlk hQ (⟨rfl, rfl⟩) dX11_strike_10
set_option maxHeartbeats 4000000 in
set_option maxRecDepth 100000 in
theorem fX11_clock (l : Launch) (g : GG) (ad : Nat → Nat) (hD : Dj ad 122) (S : SS) (hX : ∀ i, i < 122 → S i = X0 g ad i) (a1 : Int32) (a2 : Int32) : Met l yX11_clock (wG (.code yX11_clock cX11_clock 3 (some .int))) (Rm 2) (XPre g ad 122 S [.ref (ad 0), .int a1, .int a2]) (va_Qi (fun r S' => S = S' ∧ r = (-2)) (QB g ad 122) (FA ad 122)) 0 0 (FA ad 122) := by
  refine xmet cX11_clock "EbbWreck" (by decide) rfl (Nat.le_of_ble_eq_true rfl) (fun p e s m below meth c E hr hlk hml hQ ls hl => ?_)
  have hx := E.1
  have hb := E.2.1
  have hs : Sp ad 122 (FA ad 122) := Sp.fa hD
  have hl : lv_has ls 3 [(0, .ref (ad 0)), (1, .int a1), (2, .int a2)] := hl
  refine lv_aload_n hx hb dX11_clock_0 rfl (lv_at hl 0 rfl) ?_
  refine lv_iload_n hx hb dX11_clock_1 rfl (lv_at hl 1 rfl) ?_
  have c_1 : S 0 = .inr (11, [.ref (ad 1), .int 0, .int 0, .int (-1), .ref (ad 2), .ref (ad 20), .ref (ad 38), .ref (ad 93), .ref (ad 94), .ref (ad 95), .ref (ad 102), .ref (ad 104), .ref (ad 107), .ref (ad 111), .ref (ad 119)]) := (hX 0 (by decide))
  refine xcVi E hs hQ hml hl.1 0 (fX11_isAskedParty l g ad hD S hX a1) mX11_isAskedParty q963 (by decide) c_1 rfl rfl ⟨by decide, by decide⟩ ⟨by decide, by decide⟩ (by decide) rfl dX11_clock_2 (fun r2 S2 H locs hp2 hQ _ => ?_)
  obtain ⟨rfl, rfl⟩ := hp2
  refine lv_if_eq (tgt := 20) hx hb dX11_clock_5 (by decide) (fun k_3 => ?_) (fun k_3 => absurd k_3 (by decide))
  refine lv_bipush (v := (-2)) hx hb dX11_clock_20 (by decide) ?_
  exact xri E hr hlk hQ (⟨rfl, rfl⟩) dX11_clock_22
set_option maxHeartbeats 4000000 in
set_option maxRecDepth 100000 in
theorem fX11_set (l : Launch) (g : GG) (ad : Nat → Nat) (hD : Dj ad 122) (S : SS) (hX : ∀ i, i < 122 → S i = X0 g ad i) (a1 : Int32) : Met l yX11_set (wG (.code yX11_set cX11_set 7 (some .int))) (Rm 2) (XPre g ad 122 S [.ref (ad 0), .int a1]) (va_Qi (fun r S' => S = S' ∧ r = (-1000)) (QB g ad 122) (FA ad 122)) 0 0 (FA ad 122) := by
  refine xmet cX11_set "EbbWreck" (by decide) rfl (Nat.le_of_ble_eq_true rfl) (fun p e s m below meth c E hr hlk hml hQ ls hl => ?_)
  have hx := E.1
  have hb := E.2.1
  have hs : Sp ad 122 (FA ad 122) := Sp.fa hD
  have hl : lv_has ls 7 [(0, .ref (ad 0)), (1, .int a1)] := hl
  refine lv_aload_n hx hb dX11_set_0 rfl (lv_at hl 0 rfl) ?_
  refine lv_iload_n hx hb dX11_set_1 rfl (lv_at hl 1 rfl) ?_
  have c_1 : S 0 = .inr (11, [.ref (ad 1), .int 0, .int 0, .int (-1), .ref (ad 2), .ref (ad 20), .ref (ad 38), .ref (ad 93), .ref (ad 94), .ref (ad 95), .ref (ad 102), .ref (ad 104), .ref (ad 107), .ref (ad 111), .ref (ad 119)]) := (hX 0 (by decide))
  refine xcVi E hs hQ hml hl.1 0 (fX11_isAskedParty l g ad hD S hX a1) mX11_isAskedParty q963 (by decide) c_1 rfl rfl ⟨by decide, by decide⟩ ⟨by decide, by decide⟩ (by decide) rfl dX11_set_2 (fun r2 S2 H locs hp2 hQ _ => ?_)
  obtain ⟨rfl, rfl⟩ := hp2
  refine lv_if_ne (tgt := 12) hx hb dX11_set_5 (by decide) (fun k_3 => absurd k_3 (by decide)) (fun k_3 => ?_)
  refine lv_sipush (v := (-1000)) hx hb dX11_set_8 (by decide) ?_
  exact xri E hr hlk hQ (⟨rfl, rfl⟩) dX11_set_11
set_option maxHeartbeats 4000000 in
set_option maxRecDepth 100000 in
theorem fX11_pushes (l : Launch) (g : GG) (ad : Nat → Nat) (hD : Dj ad 122) (S : SS) (hX : ∀ i, i < 122 → S i = X0 g ad i) (a1 : Int32) (a2 : Int32) : Met l yX11_pushes (wG (.code yX11_pushes cX11_pushes 3 (some .int))) (Rm 2) (XPre g ad 122 S [.ref (ad 0), .int a1, .int a2]) (va_Qi (fun r S' => S = S' ∧ r = (-2)) (QB g ad 122) (FA ad 122)) 0 0 (FA ad 122) := by
  refine xmet cX11_pushes "EbbWreck" (by decide) rfl (Nat.le_of_ble_eq_true rfl) (fun p e s m below meth c E hr hlk hml hQ ls hl => ?_)
  have hx := E.1
  have hb := E.2.1
  have hs : Sp ad 122 (FA ad 122) := Sp.fa hD
  have hl : lv_has ls 3 [(0, .ref (ad 0)), (1, .int a1), (2, .int a2)] := hl
  refine lv_aload_n hx hb dX11_pushes_0 rfl (lv_at hl 0 rfl) ?_
  refine lv_iload_n hx hb dX11_pushes_1 rfl (lv_at hl 1 rfl) ?_
  refine lv_iload_n hx hb dX11_pushes_2 rfl (lv_at hl 2 rfl) ?_
  have c_1 : S 0 = .inr (11, [.ref (ad 1), .int 0, .int 0, .int (-1), .ref (ad 2), .ref (ad 20), .ref (ad 38), .ref (ad 93), .ref (ad 94), .ref (ad 95), .ref (ad 102), .ref (ad 104), .ref (ad 107), .ref (ad 111), .ref (ad 119)]) := (hX 0 (by decide))
  refine xcVi E hs hQ hml hl.1 0 (fX11_isWish l g ad hD S hX a1 a2) mX11_isWish q1044 (by decide) c_1 rfl rfl ⟨by decide, by decide⟩ ⟨by decide, by decide⟩ (by decide) rfl dX11_pushes_3 (fun r2 S2 H locs hp2 hQ _ => ?_)
  obtain ⟨rfl, rfl⟩ := hp2
  refine lv_if_eq (tgt := 22) hx hb dX11_pushes_6 (by decide) (fun k_3 => ?_) (fun k_3 => absurd k_3 (by decide))
  refine lv_bipush (v := (-2)) hx hb dX11_pushes_22 (by decide) ?_
  exact xri E hr hlk hQ (⟨rfl, rfl⟩) dX11_pushes_24
set_option maxHeartbeats 4000000 in
set_option maxRecDepth 100000 in
theorem fX11_push (l : Launch) (g : GG) (ad : Nat → Nat) (hD : Dj ad 122) (S : SS) (hX : ∀ i, i < 122 → S i = X0 g ad i) (a1 : Int32) (a2 : Int32) (a3 : Int32) : Met l yX11_push (wG (.code yX11_push cX11_push 5 (some .int))) (Rm 2) (XPre g ad 122 S [.ref (ad 0), .int a1, .int a2, .int a3]) (va_Qi (fun r S' => S = S' ∧ r = (-2)) (QB g ad 122) (FA ad 122)) 0 0 (FA ad 122) := by
  refine xmet cX11_push "EbbWreck" (by decide) rfl (Nat.le_of_ble_eq_true rfl) (fun p e s m below meth c E hr hlk hml hQ ls hl => ?_)
  have hx := E.1
  have hb := E.2.1
  have hs : Sp ad 122 (FA ad 122) := Sp.fa hD
  have hl : lv_has ls 5 [(0, .ref (ad 0)), (1, .int a1), (2, .int a2), (3, .int a3)] := hl
  refine lv_aload_n hx hb dX11_push_0 rfl (lv_at hl 0 rfl) ?_
  refine lv_iload_n hx hb dX11_push_1 rfl (lv_at hl 1 rfl) ?_
  refine lv_iload_n hx hb dX11_push_2 rfl (lv_at hl 2 rfl) ?_
  have c_1 : S 0 = .inr (11, [.ref (ad 1), .int 0, .int 0, .int (-1), .ref (ad 2), .ref (ad 20), .ref (ad 38), .ref (ad 93), .ref (ad 94), .ref (ad 95), .ref (ad 102), .ref (ad 104), .ref (ad 107), .ref (ad 111), .ref (ad 119)]) := (hX 0 (by decide))
  refine xcVi E hs hQ hml hl.1 0 (fX11_isWish l g ad hD S hX a1 a2) mX11_isWish q1044 (by decide) c_1 rfl rfl ⟨by decide, by decide⟩ ⟨by decide, by decide⟩ (by decide) rfl dX11_push_3 (fun r2 S2 H locs hp2 hQ _ => ?_)
  obtain ⟨rfl, rfl⟩ := hp2
  refine lv_if_ne (tgt := 12) hx hb dX11_push_6 (by decide) (fun k_3 => absurd k_3 (by decide)) (fun k_3 => ?_)
  refine lv_bipush (v := (-2)) hx hb dX11_push_9 (by decide) ?_
  exact xri E hr hlk hQ (⟨rfl, rfl⟩) dX11_push_11
set_option maxHeartbeats 4000000 in
set_option maxRecDepth 100000 in
theorem fX11_way (l : Launch) (g : GG) (ad : Nat → Nat) (hD : Dj ad 122) (S : SS) (hX : ∀ i, i < 122 → S i = X0 g ad i) (a1 : Int32) (a2 : Int32) (a3 : Int32) : Met l yX11_way (wG (.code yX11_way cX11_way 5 (some .int))) (Rm 2) (XPre g ad 122 S [.ref (ad 0), .int a1, .int a2, .int a3]) (va_Qi (fun r S' => S = S' ∧ r = (-2)) (QB g ad 122) (FA ad 122)) 0 0 (FA ad 122) := by
  refine xmet cX11_way "EbbWreck" (by decide) rfl (Nat.le_of_ble_eq_true rfl) (fun p e s m below meth c E hr hlk hml hQ ls hl => ?_)
  have hx := E.1
  have hb := E.2.1
  have hs : Sp ad 122 (FA ad 122) := Sp.fa hD
  have hl : lv_has ls 5 [(0, .ref (ad 0)), (1, .int a1), (2, .int a2), (3, .int a3)] := hl
  refine lv_aload_n hx hb dX11_way_0 rfl (lv_at hl 0 rfl) ?_
  refine lv_iload_n hx hb dX11_way_1 rfl (lv_at hl 1 rfl) ?_
  refine lv_iload_n hx hb dX11_way_2 rfl (lv_at hl 2 rfl) ?_
  have c_1 : S 0 = .inr (11, [.ref (ad 1), .int 0, .int 0, .int (-1), .ref (ad 2), .ref (ad 20), .ref (ad 38), .ref (ad 93), .ref (ad 94), .ref (ad 95), .ref (ad 102), .ref (ad 104), .ref (ad 107), .ref (ad 111), .ref (ad 119)]) := (hX 0 (by decide))
  refine xcVi E hs hQ hml hl.1 0 (fX11_isWish l g ad hD S hX a1 a2) mX11_isWish q1044 (by decide) c_1 rfl rfl ⟨by decide, by decide⟩ ⟨by decide, by decide⟩ (by decide) rfl dX11_way_3 (fun r2 S2 H locs hp2 hQ _ => ?_)
  obtain ⟨rfl, rfl⟩ := hp2
  refine lv_if_ne (tgt := 12) hx hb dX11_way_6 (by decide) (fun k_3 => absurd k_3 (by decide)) (fun k_3 => ?_)
  refine lv_bipush (v := (-2)) hx hb dX11_way_9 (by decide) ?_
  exact xri E hr hlk hQ (⟨rfl, rfl⟩) dX11_way_11
set_option maxHeartbeats 4000000 in
set_option maxRecDepth 100000 in
theorem fX11_soonest (l : Launch) (g : GG) (ad : Nat → Nat) (hD : Dj ad 122) (S : SS) (hX : ∀ i, i < 122 → S i = X0 g ad i) (a1 : Int32) (a2 : Int32) : Met l yX11_soonest (wG (.code yX11_soonest cX11_soonest 3 (some .int))) (Rm 2) (XPre g ad 122 S [.ref (ad 0), .int a1, .int a2]) (va_Qi (fun r S' => S = S' ∧ r = (-2)) (QB g ad 122) (FA ad 122)) 0 0 (FA ad 122) := by
  refine xmet cX11_soonest "EbbWreck" (by decide) rfl (Nat.le_of_ble_eq_true rfl) (fun p e s m below meth c E hr hlk hml hQ ls hl => ?_)
  have hx := E.1
  have hb := E.2.1
  have hs : Sp ad 122 (FA ad 122) := Sp.fa hD
  have hl : lv_has ls 3 [(0, .ref (ad 0)), (1, .int a1), (2, .int a2)] := hl
  refine lv_aload_n hx hb dX11_soonest_0 rfl (lv_at hl 0 rfl) ?_
  refine lv_iload_n hx hb dX11_soonest_1 rfl (lv_at hl 1 rfl) ?_
  refine lv_iload_n hx hb dX11_soonest_2 rfl (lv_at hl 2 rfl) ?_
  have c_1 : S 0 = .inr (11, [.ref (ad 1), .int 0, .int 0, .int (-1), .ref (ad 2), .ref (ad 20), .ref (ad 38), .ref (ad 93), .ref (ad 94), .ref (ad 95), .ref (ad 102), .ref (ad 104), .ref (ad 107), .ref (ad 111), .ref (ad 119)]) := (hX 0 (by decide))
  refine xcVi E hs hQ hml hl.1 0 (fX11_isWish l g ad hD S hX a1 a2) mX11_isWish q1044 (by decide) c_1 rfl rfl ⟨by decide, by decide⟩ ⟨by decide, by decide⟩ (by decide) rfl dX11_soonest_3 (fun r2 S2 H locs hp2 hQ _ => ?_)
  obtain ⟨rfl, rfl⟩ := hp2
  refine lv_if_eq (tgt := 21) hx hb dX11_soonest_6 (by decide) (fun k_3 => ?_) (fun k_3 => absurd k_3 (by decide))
  refine lv_bipush (v := (-2)) hx hb dX11_soonest_21 (by decide) ?_
  exact xri E hr hlk hQ (⟨rfl, rfl⟩) dX11_soonest_23
set_option maxHeartbeats 4000000 in
set_option maxRecDepth 100000 in
theorem fX11_ward (l : Launch) (g : GG) (ad : Nat → Nat) (hD : Dj ad 122) (S : SS) (hX : ∀ i, i < 122 → S i = X0 g ad i) (a1 : Int32) (a2 : Int32) : Met l yX11_ward (wG (.code yX11_ward cX11_ward 3 (some .int))) (Rm 2) (XPre g ad 122 S [.ref (ad 0), .int a1, .int a2]) (va_Qi (fun r S' => S = S' ∧ r = (-2)) (QB g ad 122) (FA ad 122)) 0 0 (FA ad 122) := by
  refine xmet cX11_ward "EbbWreck" (by decide) rfl (Nat.le_of_ble_eq_true rfl) (fun p e s m below meth c E hr hlk hml hQ ls hl => ?_)
  have hx := E.1
  have hb := E.2.1
  have hs : Sp ad 122 (FA ad 122) := Sp.fa hD
  have hl : lv_has ls 3 [(0, .ref (ad 0)), (1, .int a1), (2, .int a2)] := hl
  refine lv_aload_n hx hb dX11_ward_0 rfl (lv_at hl 0 rfl) ?_
  refine lv_iload_n hx hb dX11_ward_1 rfl (lv_at hl 1 rfl) ?_
  refine lv_iload_n hx hb dX11_ward_2 rfl (lv_at hl 2 rfl) ?_
  have c_1 : S 0 = .inr (11, [.ref (ad 1), .int 0, .int 0, .int (-1), .ref (ad 2), .ref (ad 20), .ref (ad 38), .ref (ad 93), .ref (ad 94), .ref (ad 95), .ref (ad 102), .ref (ad 104), .ref (ad 107), .ref (ad 111), .ref (ad 119)]) := (hX 0 (by decide))
  refine xcVi E hs hQ hml hl.1 0 (fX11_isWish l g ad hD S hX a1 a2) mX11_isWish q1044 (by decide) c_1 rfl rfl ⟨by decide, by decide⟩ ⟨by decide, by decide⟩ (by decide) rfl dX11_ward_3 (fun r2 S2 H locs hp2 hQ _ => ?_)
  obtain ⟨rfl, rfl⟩ := hp2
  refine lv_if_eq (tgt := 22) hx hb dX11_ward_6 (by decide) (fun k_3 => ?_) (fun k_3 => absurd k_3 (by decide))
  refine lv_bipush (v := (-2)) hx hb dX11_ward_22 (by decide) ?_
  exact xri E hr hlk hQ (⟨rfl, rfl⟩) dX11_ward_24
set_option maxHeartbeats 4000000 in
set_option maxRecDepth 100000 in
theorem fX11_all (l : Launch) (g : GG) (ad : Nat → Nat) (hD : Dj ad 122) (S : SS) (hX : ∀ i, i < 122 → S i = X0 g ad i) (a1 : Int32) : Met l yX11_all (wG (.code yX11_all cX11_all 2 (some .int))) (Rm 2) (XPre g ad 122 S [.ref (ad 0), .int a1]) (va_Qi (fun r S' => S = S' ∧ r = (-2)) (QB g ad 122) (FA ad 122)) 0 0 (FA ad 122) := by
  refine xmet cX11_all "EbbWreck" (by decide) rfl (Nat.le_of_ble_eq_true rfl) (fun p e s m below meth c E hr hlk hml hQ ls hl => ?_)
  have hx := E.1
  have hb := E.2.1
  have hs : Sp ad 122 (FA ad 122) := Sp.fa hD
  have hl : lv_has ls 2 [(0, .ref (ad 0)), (1, .int a1)] := hl
  refine lv_aload_n hx hb dX11_all_0 rfl (lv_at hl 0 rfl) ?_
  refine lv_iload_n hx hb dX11_all_1 rfl (lv_at hl 1 rfl) ?_
  have c_1 : S 0 = .inr (11, [.ref (ad 1), .int 0, .int 0, .int (-1), .ref (ad 2), .ref (ad 20), .ref (ad 38), .ref (ad 93), .ref (ad 94), .ref (ad 95), .ref (ad 102), .ref (ad 104), .ref (ad 107), .ref (ad 111), .ref (ad 119)]) := (hX 0 (by decide))
  refine xcVi E hs hQ hml hl.1 0 (fX11_isAskedParty l g ad hD S hX a1) mX11_isAskedParty q963 (by decide) c_1 rfl rfl ⟨by decide, by decide⟩ ⟨by decide, by decide⟩ (by decide) rfl dX11_all_2 (fun r2 S2 H locs hp2 hQ _ => ?_)
  obtain ⟨rfl, rfl⟩ := hp2
  refine lv_if_eq (tgt := 19) hx hb dX11_all_5 (by decide) (fun k_3 => ?_) (fun k_3 => absurd k_3 (by decide))
  refine lv_bipush (v := (-2)) hx hb dX11_all_19 (by decide) ?_
  exact xri E hr hlk hQ (⟨rfl, rfl⟩) dX11_all_21
set_option maxHeartbeats 4000000 in
set_option maxRecDepth 100000 in
theorem fX11_eddy (l : Launch) (g : GG) (ad : Nat → Nat) (hD : Dj ad 122) (S : SS) (hX : ∀ i, i < 122 → S i = X0 g ad i) (a1 : Int32) : Met l yX11_eddy (wG (.code yX11_eddy cX11_eddy 2 (some .int))) (Rm 1) (XPre g ad 122 S [.ref (ad 0), .int a1]) (va_Qi (fun r S' => S = S' ∧ r = (-2)) (QB g ad 122) (FA ad 122)) 0 0 (FA ad 122) := by
  refine xmet cX11_eddy "EbbWreck" (by decide) rfl (Nat.le_of_ble_eq_true rfl) (fun p e s m below meth c E hr hlk hml hQ ls hl => ?_)
  have hx := E.1
  have hb := E.2.1
  have hs : Sp ad 122 (FA ad 122) := Sp.fa hD
  have hl : lv_has ls 2 [(0, .ref (ad 0)), (1, .int a1)] := hl
  refine lv_aload_n hx hb dX11_eddy_0 rfl (lv_at hl 0 rfl) ?_
  have c_1 : S 0 = .inr (11, [.ref (ad 1), .int 0, .int 0, .int (-1), .ref (ad 2), .ref (ad 20), .ref (ad 38), .ref (ad 93), .ref (ad 94), .ref (ad 95), .ref (ad 102), .ref (ad 104), .ref (ad 107), .ref (ad 111), .ref (ad 119)]) := (hX 0 (by decide))
  refine xget E hQ 0 (by decide) c_1 rfl 4 (by decide) q520 rfl dX11_eddy_1 ?_
  refine lv_iload_n hx hb dX11_eddy_4 rfl (lv_at hl 1 rfl) ?_
  have c_2 : S 2 = .inr (1, [.int 0, .int 0, .int 0, .ref (ad 3), .ref (ad 5), .ref (ad 6), .int 0, .int 0, .ref (ad 7), .ref (ad 8), .ref (ad 9), .ref (ad 10), .int 0, .ref (ad 15), .ref (ad 16)]) := (hX 2 (by decide))
  refine xcVi E hs hQ hml hl.1 2 (fX1_hasCell l g ad hD S hX a1) mX1_hasCell q823 (by decide) c_2 rfl rfl ⟨by decide, by decide⟩ ⟨by decide, by decide⟩ (by decide) rfl dX11_eddy_5 (fun r3 S3 H locs hp3 hQ _ => ?_)
  obtain ⟨rfl, rfl⟩ := hp3
  refine lv_if_eq (tgt := 22) hx hb dX11_eddy_8 (by decide) (fun k_4 => ?_) (fun k_4 => absurd k_4 (by decide))
  refine lv_bipush (v := (-2)) hx hb dX11_eddy_22 (by decide) ?_
  exact xri E hr hlk hQ (⟨rfl, rfl⟩) dX11_eddy_24
set_option maxHeartbeats 4000000 in
set_option maxRecDepth 100000 in
theorem fX11_stuck (l : Launch) (g : GG) (ad : Nat → Nat) (hD : Dj ad 122) (S : SS) (hX : ∀ i, i < 122 → S i = X0 g ad i) : Met l yX11_stuck (wG (.code yX11_stuck cX11_stuck 1 (some .int))) (Rm 1) (XPre g ad 122 S [.ref (ad 0)]) (va_Qi (fun r S' => S = S' ∧ r = (-2)) (QB g ad 122) (FA ad 122)) 0 0 (FA ad 122) := by
  refine xmet cX11_stuck "EbbWreck" (by decide) rfl (Nat.le_of_ble_eq_true rfl) (fun p e s m below meth c E hr hlk hml hQ ls hl => ?_)
  have hx := E.1
  have hb := E.2.1
  have hs : Sp ad 122 (FA ad 122) := Sp.fa hD
  have hl : lv_has ls 1 [(0, .ref (ad 0))] := hl
  refine lv_aload_n hx hb dX11_stuck_0 rfl (lv_at hl 0 rfl) ?_
  have c_1 : S 0 = .inr (11, [.ref (ad 1), .int 0, .int 0, .int (-1), .ref (ad 2), .ref (ad 20), .ref (ad 38), .ref (ad 93), .ref (ad 94), .ref (ad 95), .ref (ad 102), .ref (ad 104), .ref (ad 107), .ref (ad 111), .ref (ad 119)]) := (hX 0 (by decide))
  refine xget E hQ 0 (by decide) c_1 rfl 4 (by decide) q520 rfl dX11_stuck_1 ?_
  have c_2 : S 2 = .inr (1, [.int 0, .int 0, .int 0, .ref (ad 3), .ref (ad 5), .ref (ad 6), .int 0, .int 0, .ref (ad 7), .ref (ad 8), .ref (ad 9), .ref (ad 10), .int 0, .ref (ad 15), .ref (ad 16)]) := (hX 2 (by decide))
  refine xcVi E hs hQ hml hl.1 2 (fX1_isTold l g ad hD S hX ) mX1_isTold q878 (by decide) c_2 rfl rfl ⟨by decide, by decide⟩ ⟨by decide, by decide⟩ (by decide) rfl dX11_stuck_4 (fun r3 S3 H locs hp3 hQ _ => ?_)
  obtain ⟨rfl, rfl⟩ := hp3
  refine lv_if_eq (tgt := 20) hx hb dX11_stuck_7 (by decide) (fun k_4 => ?_) (fun k_4 => absurd k_4 (by decide))
  refine lv_bipush (v := (-2)) hx hb dX11_stuck_20 (by decide) ?_
  exact xri E hr hlk hQ (⟨rfl, rfl⟩) dX11_stuck_22
set_option maxHeartbeats 4000000 in
set_option maxRecDepth 100000 in
theorem fX11_drop (l : Launch) (g : GG) (ad : Nat → Nat) (hD : Dj ad 122) (S : SS) (hX : ∀ i, i < 122 → S i = X0 g ad i) (a1 : Int32) (a2 : Int32) : Met l yX11_drop (wG (.code yX11_drop cX11_drop 3 (some .int))) (Rm 2) (XPre g ad 122 S [.ref (ad 0), .int a1, .int a2]) (va_Qi (fun r S' => S = S' ∧ r = (-2)) (QB g ad 122) (FA ad 122)) 0 0 (FA ad 122) := by
  refine xmet cX11_drop "EbbWreck" (by decide) rfl (Nat.le_of_ble_eq_true rfl) (fun p e s m below meth c E hr hlk hml hQ ls hl => ?_)
  have hx := E.1
  have hb := E.2.1
  have hs : Sp ad 122 (FA ad 122) := Sp.fa hD
  have hl : lv_has ls 3 [(0, .ref (ad 0)), (1, .int a1), (2, .int a2)] := hl
  refine lv_aload_n hx hb dX11_drop_0 rfl (lv_at hl 0 rfl) ?_
  refine lv_iload_n hx hb dX11_drop_1 rfl (lv_at hl 1 rfl) ?_
  have c_1 : S 0 = .inr (11, [.ref (ad 1), .int 0, .int 0, .int (-1), .ref (ad 2), .ref (ad 20), .ref (ad 38), .ref (ad 93), .ref (ad 94), .ref (ad 95), .ref (ad 102), .ref (ad 104), .ref (ad 107), .ref (ad 111), .ref (ad 119)]) := (hX 0 (by decide))
  refine xcVi E hs hQ hml hl.1 0 (fX11_isAskedParty l g ad hD S hX a1) mX11_isAskedParty q963 (by decide) c_1 rfl rfl ⟨by decide, by decide⟩ ⟨by decide, by decide⟩ (by decide) rfl dX11_drop_2 (fun r2 S2 H locs hp2 hQ _ => ?_)
  obtain ⟨rfl, rfl⟩ := hp2
  refine lv_if_eq (tgt := 17) hx hb dX11_drop_5 (by decide) (fun k_3 => ?_) (fun k_3 => absurd k_3 (by decide))
  refine lv_bipush (v := (-2)) hx hb dX11_drop_17 (by decide) ?_
  exact xri E hr hlk hQ (⟨rfl, rfl⟩) dX11_drop_19
set_option maxHeartbeats 4000000 in
set_option maxRecDepth 100000 in
theorem fX11_drops (l : Launch) (g : GG) (ad : Nat → Nat) (hD : Dj ad 122) (S : SS) (hX : ∀ i, i < 122 → S i = X0 g ad i) (a1 : Int32) : Met l yX11_drops (wG (.code yX11_drops cX11_drops 2 (some .int))) (Rm 2) (XPre g ad 122 S [.ref (ad 0), .int a1]) (va_Qi (fun r S' => S = S' ∧ r = (-2)) (QB g ad 122) (FA ad 122)) 0 0 (FA ad 122) := by
  refine xmet cX11_drops "EbbWreck" (by decide) rfl (Nat.le_of_ble_eq_true rfl) (fun p e s m below meth c E hr hlk hml hQ ls hl => ?_)
  have hx := E.1
  have hb := E.2.1
  have hs : Sp ad 122 (FA ad 122) := Sp.fa hD
  have hl : lv_has ls 2 [(0, .ref (ad 0)), (1, .int a1)] := hl
  refine lv_aload_n hx hb dX11_drops_0 rfl (lv_at hl 0 rfl) ?_
  refine lv_iload_n hx hb dX11_drops_1 rfl (lv_at hl 1 rfl) ?_
  have c_1 : S 0 = .inr (11, [.ref (ad 1), .int 0, .int 0, .int (-1), .ref (ad 2), .ref (ad 20), .ref (ad 38), .ref (ad 93), .ref (ad 94), .ref (ad 95), .ref (ad 102), .ref (ad 104), .ref (ad 107), .ref (ad 111), .ref (ad 119)]) := (hX 0 (by decide))
  refine xcVi E hs hQ hml hl.1 0 (fX11_isAskedParty l g ad hD S hX a1) mX11_isAskedParty q963 (by decide) c_1 rfl rfl ⟨by decide, by decide⟩ ⟨by decide, by decide⟩ (by decide) rfl dX11_drops_2 (fun r2 S2 H locs hp2 hQ _ => ?_)
  obtain ⟨rfl, rfl⟩ := hp2
  refine lv_if_eq (tgt := 19) hx hb dX11_drops_5 (by decide) (fun k_3 => ?_) (fun k_3 => absurd k_3 (by decide))
  refine lv_bipush (v := (-2)) hx hb dX11_drops_19 (by decide) ?_
  exact xri E hr hlk hQ (⟨rfl, rfl⟩) dX11_drops_21
set_option maxHeartbeats 4000000 in
set_option maxRecDepth 100000 in
theorem fX11_origins (l : Launch) (g : GG) (ad : Nat → Nat) (hD : Dj ad 122) (S : SS) (hX : ∀ i, i < 122 → S i = X0 g ad i) (a1 : Int32) (a2 : Int32) (a3 : Int32) : Met l yX11_origins (wG (.code yX11_origins cX11_origins 4 (some .int))) (Rm 1) (XPre g ad 122 S [.ref (ad 0), .int a1, .int a2, .int a3]) (va_Qi (fun r S' => S = S' ∧ r = (-2)) (QB g ad 122) (FA ad 122)) 0 0 (FA ad 122) := by
  refine xmet cX11_origins "EbbWreck" (by decide) rfl (Nat.le_of_ble_eq_true rfl) (fun p e s m below meth c E hr hlk hml hQ ls hl => ?_)
  have hx := E.1
  have hb := E.2.1
  have hs : Sp ad 122 (FA ad 122) := Sp.fa hD
  have hl : lv_has ls 4 [(0, .ref (ad 0)), (1, .int a1), (2, .int a2), (3, .int a3)] := hl
  refine lv_aload_n hx hb dX11_origins_0 rfl (lv_at hl 0 rfl) ?_
  have c_1 : S 0 = .inr (11, [.ref (ad 1), .int 0, .int 0, .int (-1), .ref (ad 2), .ref (ad 20), .ref (ad 38), .ref (ad 93), .ref (ad 94), .ref (ad 95), .ref (ad 102), .ref (ad 104), .ref (ad 107), .ref (ad 111), .ref (ad 119)]) := (hX 0 (by decide))
  refine xget E hQ 0 (by decide) c_1 rfl 4 (by decide) q520 rfl dX11_origins_1 ?_
  refine lv_iload_n hx hb dX11_origins_4 rfl (lv_at hl 3 rfl) ?_
  have c_2 : S 2 = .inr (1, [.int 0, .int 0, .int 0, .ref (ad 3), .ref (ad 5), .ref (ad 6), .int 0, .int 0, .ref (ad 7), .ref (ad 8), .ref (ad 9), .ref (ad 10), .int 0, .ref (ad 15), .ref (ad 16)]) := (hX 2 (by decide))
  refine xcVi E hs hQ hml hl.1 2 (fX1_hasCell l g ad hD S hX a3) mX1_hasCell q823 (by decide) c_2 rfl rfl ⟨by decide, by decide⟩ ⟨by decide, by decide⟩ (by decide) rfl dX11_origins_5 (fun r3 S3 H locs hp3 hQ _ => ?_)
  obtain ⟨rfl, rfl⟩ := hp3
  refine lv_if_eq (tgt := 29) hx hb dX11_origins_8 (by decide) (fun k_4 => ?_) (fun k_4 => absurd k_4 (by decide))
  refine lv_bipush (v := (-2)) hx hb dX11_origins_29 (by decide) ?_
  exact xri E hr hlk hQ (⟨rfl, rfl⟩) dX11_origins_31
set_option maxHeartbeats 4000000 in
set_option maxRecDepth 100000 in
theorem fX11_when (l : Launch) (g : GG) (ad : Nat → Nat) (hD : Dj ad 122) (S : SS) (hX : ∀ i, i < 122 → S i = X0 g ad i) (a1 : Int32) (a2 : Int32) (a3 : Int32) : Met l yX11_when (wG (.code yX11_when cX11_when 4 (some .int))) (Rm 1) (XPre g ad 122 S [.ref (ad 0), .int a1, .int a2, .int a3]) (va_Qi (fun r S' => S = S' ∧ r = (-2)) (QB g ad 122) (FA ad 122)) 0 0 (FA ad 122) := by
  refine xmet cX11_when "EbbWreck" (by decide) rfl (Nat.le_of_ble_eq_true rfl) (fun p e s m below meth c E hr hlk hml hQ ls hl => ?_)
  have hx := E.1
  have hb := E.2.1
  have hs : Sp ad 122 (FA ad 122) := Sp.fa hD
  have hl : lv_has ls 4 [(0, .ref (ad 0)), (1, .int a1), (2, .int a2), (3, .int a3)] := hl
  refine lv_aload_n hx hb dX11_when_0 rfl (lv_at hl 0 rfl) ?_
  have c_1 : S 0 = .inr (11, [.ref (ad 1), .int 0, .int 0, .int (-1), .ref (ad 2), .ref (ad 20), .ref (ad 38), .ref (ad 93), .ref (ad 94), .ref (ad 95), .ref (ad 102), .ref (ad 104), .ref (ad 107), .ref (ad 111), .ref (ad 119)]) := (hX 0 (by decide))
  refine xget E hQ 0 (by decide) c_1 rfl 4 (by decide) q520 rfl dX11_when_1 ?_
  refine lv_iload_n hx hb dX11_when_4 rfl (lv_at hl 1 rfl) ?_
  have c_2 : S 2 = .inr (1, [.int 0, .int 0, .int 0, .ref (ad 3), .ref (ad 5), .ref (ad 6), .int 0, .int 0, .ref (ad 7), .ref (ad 8), .ref (ad 9), .ref (ad 10), .int 0, .ref (ad 15), .ref (ad 16)]) := (hX 2 (by decide))
  refine xcVi E hs hQ hml hl.1 2 (fX1_hasCell l g ad hD S hX a1) mX1_hasCell q823 (by decide) c_2 rfl rfl ⟨by decide, by decide⟩ ⟨by decide, by decide⟩ (by decide) rfl dX11_when_5 (fun r3 S3 H locs hp3 hQ _ => ?_)
  obtain ⟨rfl, rfl⟩ := hp3
  refine lv_if_eq (tgt := 32) hx hb dX11_when_8 (by decide) (fun k_4 => ?_) (fun k_4 => absurd k_4 (by decide))
  refine lv_bipush (v := (-2)) hx hb dX11_when_32 (by decide) ?_
  exact xri E hr hlk hQ (⟨rfl, rfl⟩) dX11_when_34
set_option maxHeartbeats 4000000 in
set_option maxRecDepth 100000 in
theorem fX11_share (l : Launch) (g : GG) (ad : Nat → Nat) (hD : Dj ad 122) (S : SS) (hX : ∀ i, i < 122 → S i = X0 g ad i) (a1 : Int32) : Met l yX11_share (wG (.code yX11_share cX11_share 2 (some .int))) (Rm 1) (XPre g ad 122 S [.ref (ad 0), .int a1]) (va_Qi (fun r S' => S = S' ∧ r = (-2)) (QB g ad 122) (FA ad 122)) 0 0 (FA ad 122) := by
  refine xmet cX11_share "EbbWreck" (by decide) rfl (Nat.le_of_ble_eq_true rfl) (fun p e s m below meth c E hr hlk hml hQ ls hl => ?_)
  have hx := E.1
  have hb := E.2.1
  have hs : Sp ad 122 (FA ad 122) := Sp.fa hD
  have hl : lv_has ls 2 [(0, .ref (ad 0)), (1, .int a1)] := hl
  refine lv_aload_n hx hb dX11_share_0 rfl (lv_at hl 0 rfl) ?_
  have c_1 : S 0 = .inr (11, [.ref (ad 1), .int 0, .int 0, .int (-1), .ref (ad 2), .ref (ad 20), .ref (ad 38), .ref (ad 93), .ref (ad 94), .ref (ad 95), .ref (ad 102), .ref (ad 104), .ref (ad 107), .ref (ad 111), .ref (ad 119)]) := (hX 0 (by decide))
  refine xget E hQ 0 (by decide) c_1 rfl 4 (by decide) q520 rfl dX11_share_1 ?_
  refine lv_iload_n hx hb dX11_share_4 rfl (lv_at hl 1 rfl) ?_
  have c_2 : S 2 = .inr (1, [.int 0, .int 0, .int 0, .ref (ad 3), .ref (ad 5), .ref (ad 6), .int 0, .int 0, .ref (ad 7), .ref (ad 8), .ref (ad 9), .ref (ad 10), .int 0, .ref (ad 15), .ref (ad 16)]) := (hX 2 (by decide))
  refine xcVi E hs hQ hml hl.1 2 (fX1_hasSitter l g ad hD S hX a1) mX1_hasSitter q848 (by decide) c_2 rfl rfl ⟨by decide, by decide⟩ ⟨by decide, by decide⟩ (by decide) rfl dX11_share_5 (fun r3 S3 H locs hp3 hQ _ => ?_)
  obtain ⟨rfl, rfl⟩ := hp3
  refine lv_if_ne (tgt := 14) hx hb dX11_share_8 (by decide) (fun k_4 => absurd k_4 (by decide)) (fun k_4 => ?_)
  refine lv_bipush (v := (-2)) hx hb dX11_share_11 (by decide) ?_
  exact xri E hr hlk hQ (⟨rfl, rfl⟩) dX11_share_13
set_option maxHeartbeats 4000000 in
set_option maxRecDepth 100000 in
theorem fX11_seat (l : Launch) (g : GG) (ad : Nat → Nat) (hD : Dj ad 122) (S : SS) (hX : ∀ i, i < 122 → S i = X0 g ad i) (a1 : Int32) (a2 : Int32) : Met l yX11_seat (wG (.code yX11_seat cX11_seat 3 (some .int))) (Rm 1) (XPre g ad 122 S [.ref (ad 0), .int a1, .int a2]) (va_Qi (fun r S' => S = S' ∧ r = (-2)) (QB g ad 122) (FA ad 122)) 0 0 (FA ad 122) := by
  refine xmet cX11_seat "EbbWreck" (by decide) rfl (Nat.le_of_ble_eq_true rfl) (fun p e s m below meth c E hr hlk hml hQ ls hl => ?_)
  have hx := E.1
  have hb := E.2.1
  have hs : Sp ad 122 (FA ad 122) := Sp.fa hD
  have hl : lv_has ls 3 [(0, .ref (ad 0)), (1, .int a1), (2, .int a2)] := hl
  refine lv_aload_n hx hb dX11_seat_0 rfl (lv_at hl 0 rfl) ?_
  have c_1 : S 0 = .inr (11, [.ref (ad 1), .int 0, .int 0, .int (-1), .ref (ad 2), .ref (ad 20), .ref (ad 38), .ref (ad 93), .ref (ad 94), .ref (ad 95), .ref (ad 102), .ref (ad 104), .ref (ad 107), .ref (ad 111), .ref (ad 119)]) := (hX 0 (by decide))
  refine xget E hQ 0 (by decide) c_1 rfl 4 (by decide) q520 rfl dX11_seat_1 ?_
  refine lv_iload_n hx hb dX11_seat_4 rfl (lv_at hl 1 rfl) ?_
  have c_2 : S 2 = .inr (1, [.int 0, .int 0, .int 0, .ref (ad 3), .ref (ad 5), .ref (ad 6), .int 0, .int 0, .ref (ad 7), .ref (ad 8), .ref (ad 9), .ref (ad 10), .int 0, .ref (ad 15), .ref (ad 16)]) := (hX 2 (by decide))
  refine xcVi E hs hQ hml hl.1 2 (fX1_hasSitter l g ad hD S hX a1) mX1_hasSitter q848 (by decide) c_2 rfl rfl ⟨by decide, by decide⟩ ⟨by decide, by decide⟩ (by decide) rfl dX11_seat_5 (fun r3 S3 H locs hp3 hQ _ => ?_)
  obtain ⟨rfl, rfl⟩ := hp3
  refine lv_if_eq (tgt := 22) hx hb dX11_seat_8 (by decide) (fun k_4 => ?_) (fun k_4 => absurd k_4 (by decide))
  refine lv_bipush (v := (-2)) hx hb dX11_seat_22 (by decide) ?_
  exact xri E hr hlk hQ (⟨rfl, rfl⟩) dX11_seat_24
set_option maxHeartbeats 4000000 in
set_option maxRecDepth 100000 in
theorem fX11_seats (l : Launch) (g : GG) (ad : Nat → Nat) (hD : Dj ad 122) (S : SS) (hX : ∀ i, i < 122 → S i = X0 g ad i) (a1 : Int32) : Met l yX11_seats (wG (.code yX11_seats cX11_seats 2 (some .int))) (Rm 1) (XPre g ad 122 S [.ref (ad 0), .int a1]) (va_Qi (fun r S' => S = S' ∧ r = (-2)) (QB g ad 122) (FA ad 122)) 0 0 (FA ad 122) := by
  refine xmet cX11_seats "EbbWreck" (by decide) rfl (Nat.le_of_ble_eq_true rfl) (fun p e s m below meth c E hr hlk hml hQ ls hl => ?_)
  have hx := E.1
  have hb := E.2.1
  have hs : Sp ad 122 (FA ad 122) := Sp.fa hD
  have hl : lv_has ls 2 [(0, .ref (ad 0)), (1, .int a1)] := hl
  refine lv_aload_n hx hb dX11_seats_0 rfl (lv_at hl 0 rfl) ?_
  have c_1 : S 0 = .inr (11, [.ref (ad 1), .int 0, .int 0, .int (-1), .ref (ad 2), .ref (ad 20), .ref (ad 38), .ref (ad 93), .ref (ad 94), .ref (ad 95), .ref (ad 102), .ref (ad 104), .ref (ad 107), .ref (ad 111), .ref (ad 119)]) := (hX 0 (by decide))
  refine xget E hQ 0 (by decide) c_1 rfl 4 (by decide) q520 rfl dX11_seats_1 ?_
  refine lv_iload_n hx hb dX11_seats_4 rfl (lv_at hl 1 rfl) ?_
  have c_2 : S 2 = .inr (1, [.int 0, .int 0, .int 0, .ref (ad 3), .ref (ad 5), .ref (ad 6), .int 0, .int 0, .ref (ad 7), .ref (ad 8), .ref (ad 9), .ref (ad 10), .int 0, .ref (ad 15), .ref (ad 16)]) := (hX 2 (by decide))
  refine xcVi E hs hQ hml hl.1 2 (fX1_hasSitter l g ad hD S hX a1) mX1_hasSitter q848 (by decide) c_2 rfl rfl ⟨by decide, by decide⟩ ⟨by decide, by decide⟩ (by decide) rfl dX11_seats_5 (fun r3 S3 H locs hp3 hQ _ => ?_)
  obtain ⟨rfl, rfl⟩ := hp3
  refine lv_if_eq (tgt := 22) hx hb dX11_seats_8 (by decide) (fun k_4 => ?_) (fun k_4 => absurd k_4 (by decide))
  refine lv_bipush (v := (-2)) hx hb dX11_seats_22 (by decide) ?_
  exact xri E hr hlk hQ (⟨rfl, rfl⟩) dX11_seats_24
set_option maxHeartbeats 4000000 in
set_option maxRecDepth 100000 in
theorem fX11_rests (l : Launch) (g : GG) (ad : Nat → Nat) (hD : Dj ad 122) (S : SS) (hX : ∀ i, i < 122 → S i = X0 g ad i) : Met l yX11_rests (wG (.code yX11_rests cX11_rests 1 (some .int))) (Rm 1) (XPre g ad 122 S [.ref (ad 0)]) (va_Qi (fun r S' => S = S' ∧ r = (-2)) (QB g ad 122) (FA ad 122)) 0 0 (FA ad 122) := by
  refine xmet cX11_rests "EbbWreck" (by decide) rfl (Nat.le_of_ble_eq_true rfl) (fun p e s m below meth c E hr hlk hml hQ ls hl => ?_)
  have hx := E.1
  have hb := E.2.1
  have hs : Sp ad 122 (FA ad 122) := Sp.fa hD
  have hl : lv_has ls 1 [(0, .ref (ad 0))] := hl
  refine lv_aload_n hx hb dX11_rests_0 rfl (lv_at hl 0 rfl) ?_
  have c_1 : S 0 = .inr (11, [.ref (ad 1), .int 0, .int 0, .int (-1), .ref (ad 2), .ref (ad 20), .ref (ad 38), .ref (ad 93), .ref (ad 94), .ref (ad 95), .ref (ad 102), .ref (ad 104), .ref (ad 107), .ref (ad 111), .ref (ad 119)]) := (hX 0 (by decide))
  refine xget E hQ 0 (by decide) c_1 rfl 4 (by decide) q520 rfl dX11_rests_1 ?_
  have c_2 : S 2 = .inr (1, [.int 0, .int 0, .int 0, .ref (ad 3), .ref (ad 5), .ref (ad 6), .int 0, .int 0, .ref (ad 7), .ref (ad 8), .ref (ad 9), .ref (ad 10), .int 0, .ref (ad 15), .ref (ad 16)]) := (hX 2 (by decide))
  refine xcVi E hs hQ hml hl.1 2 (fX1_isTold l g ad hD S hX ) mX1_isTold q878 (by decide) c_2 rfl rfl ⟨by decide, by decide⟩ ⟨by decide, by decide⟩ (by decide) rfl dX11_rests_4 (fun r3 S3 H locs hp3 hQ _ => ?_)
  obtain ⟨rfl, rfl⟩ := hp3
  refine lv_if_eq (tgt := 20) hx hb dX11_rests_7 (by decide) (fun k_4 => ?_) (fun k_4 => absurd k_4 (by decide))
  refine lv_bipush (v := (-2)) hx hb dX11_rests_20 (by decide) ?_
  exact xri E hr hlk hQ (⟨rfl, rfl⟩) dX11_rests_22
set_option maxHeartbeats 4000000 in
set_option maxRecDepth 100000 in
theorem fX11_rest (l : Launch) (g : GG) (ad : Nat → Nat) (hD : Dj ad 122) (S : SS) (hX : ∀ i, i < 122 → S i = X0 g ad i) (a1 : Int32) : Met l yX11_rest (wG (.code yX11_rest cX11_rest 2 (some .int))) (Rm 1) (XPre g ad 122 S [.ref (ad 0), .int a1]) (va_Qi (fun r S' => S = S' ∧ r = (-2)) (QB g ad 122) (FA ad 122)) 0 0 (FA ad 122) := by
  refine xmet cX11_rest "EbbWreck" (by decide) rfl (Nat.le_of_ble_eq_true rfl) (fun p e s m below meth c E hr hlk hml hQ ls hl => ?_)
  have hx := E.1
  have hb := E.2.1
  have hs : Sp ad 122 (FA ad 122) := Sp.fa hD
  have hl : lv_has ls 2 [(0, .ref (ad 0)), (1, .int a1)] := hl
  refine lv_aload_n hx hb dX11_rest_0 rfl (lv_at hl 0 rfl) ?_
  have c_1 : S 0 = .inr (11, [.ref (ad 1), .int 0, .int 0, .int (-1), .ref (ad 2), .ref (ad 20), .ref (ad 38), .ref (ad 93), .ref (ad 94), .ref (ad 95), .ref (ad 102), .ref (ad 104), .ref (ad 107), .ref (ad 111), .ref (ad 119)]) := (hX 0 (by decide))
  refine xget E hQ 0 (by decide) c_1 rfl 4 (by decide) q520 rfl dX11_rest_1 ?_
  refine lv_iload_n hx hb dX11_rest_4 rfl (lv_at hl 1 rfl) ?_
  have c_2 : S 2 = .inr (1, [.int 0, .int 0, .int 0, .ref (ad 3), .ref (ad 5), .ref (ad 6), .int 0, .int 0, .ref (ad 7), .ref (ad 8), .ref (ad 9), .ref (ad 10), .int 0, .ref (ad 15), .ref (ad 16)]) := (hX 2 (by decide))
  refine xcVi E hs hQ hml hl.1 2 (fX1_hasSitter l g ad hD S hX a1) mX1_hasSitter q848 (by decide) c_2 rfl rfl ⟨by decide, by decide⟩ ⟨by decide, by decide⟩ (by decide) rfl dX11_rest_5 (fun r3 S3 H locs hp3 hQ _ => ?_)
  obtain ⟨rfl, rfl⟩ := hp3
  refine lv_if_eq (tgt := 22) hx hb dX11_rest_8 (by decide) (fun k_4 => ?_) (fun k_4 => absurd k_4 (by decide))
  refine lv_bipush (v := (-2)) hx hb dX11_rest_22 (by decide) ?_
  exact xri E hr hlk hQ (⟨rfl, rfl⟩) dX11_rest_24
set_option maxHeartbeats 4000000 in
set_option maxRecDepth 100000 in
theorem fX11_sit (l : Launch) (g : GG) (ad : Nat → Nat) (hD : Dj ad 122) (S : SS) (hX : ∀ i, i < 122 → S i = X0 g ad i) (a1 : Int32) (a2 : Int32) : Met l yX11_sit (wG (.code yX11_sit cX11_sit 4 (some .int))) (Rm 1) (XPre g ad 122 S [.ref (ad 0), .int a1, .int a2]) (va_Qi (fun r S' => S = S' ∧ r = (-2)) (QB g ad 122) (FA ad 122)) 0 0 (FA ad 122) := by
  refine xmet cX11_sit "EbbWreck" (by decide) rfl (Nat.le_of_ble_eq_true rfl) (fun p e s m below meth c E hr hlk hml hQ ls hl => ?_)
  have hx := E.1
  have hb := E.2.1
  have hs : Sp ad 122 (FA ad 122) := Sp.fa hD
  have hl : lv_has ls 4 [(0, .ref (ad 0)), (1, .int a1), (2, .int a2)] := hl
  refine lv_aload_n hx hb dX11_sit_0 rfl (lv_at hl 0 rfl) ?_
  have c_1 : S 0 = .inr (11, [.ref (ad 1), .int 0, .int 0, .int (-1), .ref (ad 2), .ref (ad 20), .ref (ad 38), .ref (ad 93), .ref (ad 94), .ref (ad 95), .ref (ad 102), .ref (ad 104), .ref (ad 107), .ref (ad 111), .ref (ad 119)]) := (hX 0 (by decide))
  refine xget E hQ 0 (by decide) c_1 rfl 4 (by decide) q520 rfl dX11_sit_1 ?_
  refine lv_iload_n hx hb dX11_sit_4 rfl (lv_at hl 1 rfl) ?_
  have c_2 : S 2 = .inr (1, [.int 0, .int 0, .int 0, .ref (ad 3), .ref (ad 5), .ref (ad 6), .int 0, .int 0, .ref (ad 7), .ref (ad 8), .ref (ad 9), .ref (ad 10), .int 0, .ref (ad 15), .ref (ad 16)]) := (hX 2 (by decide))
  refine xcVi E hs hQ hml hl.1 2 (fX1_hasSitter l g ad hD S hX a1) mX1_hasSitter q848 (by decide) c_2 rfl rfl ⟨by decide, by decide⟩ ⟨by decide, by decide⟩ (by decide) rfl dX11_sit_5 (fun r3 S3 H locs hp3 hQ _ => ?_)
  obtain ⟨rfl, rfl⟩ := hp3
  refine lv_if_eq (tgt := 22) hx hb dX11_sit_8 (by decide) (fun k_4 => ?_) (fun k_4 => absurd k_4 (by decide))
  refine lv_bipush (v := (-2)) hx hb dX11_sit_22 (by decide) ?_
  exact xri E hr hlk hQ (⟨rfl, rfl⟩) dX11_sit_24
set_option maxHeartbeats 4000000 in
set_option maxRecDepth 100000 in
theorem fX11_shove (l : Launch) (g : GG) (ad : Nat → Nat) (hD : Dj ad 122) (S : SS) (hX : ∀ i, i < 122 → S i = X0 g ad i) (a1 : Int32) (a2 : Int32) (a3 : Int32) : Met l yX11_shove (wG (.code yX11_shove cX11_shove 4 (some .int))) (Rm 1) (XPre g ad 122 S [.ref (ad 0), .int a1, .int a2, .int a3]) (va_Qi (fun r S' => S = S' ∧ r = (-2)) (QB g ad 122) (FA ad 122)) 0 0 (FA ad 122) := by
  refine xmet cX11_shove "EbbWreck" (by decide) rfl (Nat.le_of_ble_eq_true rfl) (fun p e s m below meth c E hr hlk hml hQ ls hl => ?_)
  have hx := E.1
  have hb := E.2.1
  have hs : Sp ad 122 (FA ad 122) := Sp.fa hD
  have hl : lv_has ls 4 [(0, .ref (ad 0)), (1, .int a1), (2, .int a2), (3, .int a3)] := hl
  refine lv_aload_n hx hb dX11_shove_0 rfl (lv_at hl 0 rfl) ?_
  have c_1 : S 0 = .inr (11, [.ref (ad 1), .int 0, .int 0, .int (-1), .ref (ad 2), .ref (ad 20), .ref (ad 38), .ref (ad 93), .ref (ad 94), .ref (ad 95), .ref (ad 102), .ref (ad 104), .ref (ad 107), .ref (ad 111), .ref (ad 119)]) := (hX 0 (by decide))
  refine xget E hQ 0 (by decide) c_1 rfl 4 (by decide) q520 rfl dX11_shove_1 ?_
  refine lv_iload_n hx hb dX11_shove_4 rfl (lv_at hl 1 rfl) ?_
  have c_2 : S 2 = .inr (1, [.int 0, .int 0, .int 0, .ref (ad 3), .ref (ad 5), .ref (ad 6), .int 0, .int 0, .ref (ad 7), .ref (ad 8), .ref (ad 9), .ref (ad 10), .int 0, .ref (ad 15), .ref (ad 16)]) := (hX 2 (by decide))
  refine xcVi E hs hQ hml hl.1 2 (fX1_hasThing l g ad hD S hX a1) mX1_hasThing q832 (by decide) c_2 rfl rfl ⟨by decide, by decide⟩ ⟨by decide, by decide⟩ (by decide) rfl dX11_shove_5 (fun r3 S3 H locs hp3 hQ _ => ?_)
  obtain ⟨rfl, rfl⟩ := hp3
  refine lv_if_eq (tgt := 29) hx hb dX11_shove_8 (by decide) (fun k_4 => ?_) (fun k_4 => absurd k_4 (by decide))
  refine lv_bipush (v := (-2)) hx hb dX11_shove_29 (by decide) ?_
  exact xri E hr hlk hQ (⟨rfl, rfl⟩) dX11_shove_31
set_option maxHeartbeats 4000000 in
set_option maxRecDepth 100000 in
theorem fX11_undo (l : Launch) (g : GG) (ad : Nat → Nat) (hD : Dj ad 122) (S : SS) (hX : ∀ i, i < 122 → S i = X0 g ad i) : Met l yX11_undo (wG (.code yX11_undo cX11_undo 2 (some .int))) (Rm 1) (XPre g ad 122 S [.ref (ad 0)]) (va_Qi (fun r S' => S = S' ∧ r = (-2)) (QB g ad 122) (FA ad 122)) 0 0 (FA ad 122) := by
  refine xmet cX11_undo "EbbWreck" (by decide) rfl (Nat.le_of_ble_eq_true rfl) (fun p e s m below meth c E hr hlk hml hQ ls hl => ?_)
  have hx := E.1
  have hb := E.2.1
  have hs : Sp ad 122 (FA ad 122) := Sp.fa hD
  have hl : lv_has ls 2 [(0, .ref (ad 0))] := hl
  refine lv_aload_n hx hb dX11_undo_0 rfl (lv_at hl 0 rfl) ?_
  have c_1 : S 0 = .inr (11, [.ref (ad 1), .int 0, .int 0, .int (-1), .ref (ad 2), .ref (ad 20), .ref (ad 38), .ref (ad 93), .ref (ad 94), .ref (ad 95), .ref (ad 102), .ref (ad 104), .ref (ad 107), .ref (ad 111), .ref (ad 119)]) := (hX 0 (by decide))
  refine xget E hQ 0 (by decide) c_1 rfl 4 (by decide) q520 rfl dX11_undo_1 ?_
  have c_2 : S 2 = .inr (1, [.int 0, .int 0, .int 0, .ref (ad 3), .ref (ad 5), .ref (ad 6), .int 0, .int 0, .ref (ad 7), .ref (ad 8), .ref (ad 9), .ref (ad 10), .int 0, .ref (ad 15), .ref (ad 16)]) := (hX 2 (by decide))
  refine xcVi E hs hQ hml hl.1 2 (fX1_isTold l g ad hD S hX ) mX1_isTold q878 (by decide) c_2 rfl rfl ⟨by decide, by decide⟩ ⟨by decide, by decide⟩ (by decide) rfl dX11_undo_4 (fun r3 S3 H locs hp3 hQ _ => ?_)
  obtain ⟨rfl, rfl⟩ := hp3
  refine lv_if_ne (tgt := 13) hx hb dX11_undo_7 (by decide) (fun k_4 => absurd k_4 (by decide)) (fun k_4 => ?_)
  refine lv_bipush (v := (-2)) hx hb dX11_undo_10 (by decide) ?_
  exact xri E hr hlk hQ (⟨rfl, rfl⟩) dX11_undo_12
set_option maxHeartbeats 4000000 in
set_option maxRecDepth 100000 in
theorem fX11_anew (l : Launch) (g : GG) (ad : Nat → Nat) (hD : Dj ad 122) (S : SS) (hX : ∀ i, i < 122 → S i = X0 g ad i) : Met l yX11_anew (wG (.code yX11_anew cX11_anew 3 (some .int))) (Rm 1) (XPre g ad 122 S [.ref (ad 0)]) (va_Qi (fun r S' => S = S' ∧ r = (-2)) (QB g ad 122) (FA ad 122)) 0 0 (FA ad 122) := by
  refine xmet cX11_anew "EbbWreck" (by decide) rfl (Nat.le_of_ble_eq_true rfl) (fun p e s m below meth c E hr hlk hml hQ ls hl => ?_)
  have hx := E.1
  have hb := E.2.1
  have hs : Sp ad 122 (FA ad 122) := Sp.fa hD
  have hl : lv_has ls 3 [(0, .ref (ad 0))] := hl
  refine lv_aload_n hx hb dX11_anew_0 rfl (lv_at hl 0 rfl) ?_
  have c_1 : S 0 = .inr (11, [.ref (ad 1), .int 0, .int 0, .int (-1), .ref (ad 2), .ref (ad 20), .ref (ad 38), .ref (ad 93), .ref (ad 94), .ref (ad 95), .ref (ad 102), .ref (ad 104), .ref (ad 107), .ref (ad 111), .ref (ad 119)]) := (hX 0 (by decide))
  refine xget E hQ 0 (by decide) c_1 rfl 4 (by decide) q520 rfl dX11_anew_1 ?_
  have c_2 : S 2 = .inr (1, [.int 0, .int 0, .int 0, .ref (ad 3), .ref (ad 5), .ref (ad 6), .int 0, .int 0, .ref (ad 7), .ref (ad 8), .ref (ad 9), .ref (ad 10), .int 0, .ref (ad 15), .ref (ad 16)]) := (hX 2 (by decide))
  refine xcVi E hs hQ hml hl.1 2 (fX1_isTold l g ad hD S hX ) mX1_isTold q878 (by decide) c_2 rfl rfl ⟨by decide, by decide⟩ ⟨by decide, by decide⟩ (by decide) rfl dX11_anew_4 (fun r3 S3 H locs hp3 hQ _ => ?_)
  obtain ⟨rfl, rfl⟩ := hp3
  refine lv_if_ne (tgt := 13) hx hb dX11_anew_7 (by decide) (fun k_4 => absurd k_4 (by decide)) (fun k_4 => ?_)
  refine lv_bipush (v := (-2)) hx hb dX11_anew_10 (by decide) ?_
  exact xri E hr hlk hQ (⟨rfl, rfl⟩) dX11_anew_12
set_option maxHeartbeats 4000000 in
set_option maxRecDepth 100000 in
theorem fX11_rate (l : Launch) (g : GG) (ad : Nat → Nat) (hD : Dj ad 122) (S : SS) (hX : ∀ i, i < 122 → S i = X0 g ad i) (a1 : Int32) (a2 : Int32) : Met l yX11_rate (wG (.code yX11_rate cX11_rate 4 (some .int))) (Rm 1) (XPre g ad 122 S [.ref (ad 0), .int a1, .int a2]) (va_Qi (fun r S' => S = S' ∧ r = (-2)) (QB g ad 122) (FA ad 122)) 0 0 (FA ad 122) := by
  refine xmet cX11_rate "EbbWreck" (by decide) rfl (Nat.le_of_ble_eq_true rfl) (fun p e s m below meth c E hr hlk hml hQ ls hl => ?_)
  have hx := E.1
  have hb := E.2.1
  have hs : Sp ad 122 (FA ad 122) := Sp.fa hD
  have hl : lv_has ls 4 [(0, .ref (ad 0)), (1, .int a1), (2, .int a2)] := hl
  refine lv_aload_n hx hb dX11_rate_0 rfl (lv_at hl 0 rfl) ?_
  have c_1 : S 0 = .inr (11, [.ref (ad 1), .int 0, .int 0, .int (-1), .ref (ad 2), .ref (ad 20), .ref (ad 38), .ref (ad 93), .ref (ad 94), .ref (ad 95), .ref (ad 102), .ref (ad 104), .ref (ad 107), .ref (ad 111), .ref (ad 119)]) := (hX 0 (by decide))
  refine xget E hQ 0 (by decide) c_1 rfl 4 (by decide) q520 rfl dX11_rate_1 ?_
  refine lv_iload_n hx hb dX11_rate_4 rfl (lv_at hl 1 rfl) ?_
  have c_2 : S 2 = .inr (1, [.int 0, .int 0, .int 0, .ref (ad 3), .ref (ad 5), .ref (ad 6), .int 0, .int 0, .ref (ad 7), .ref (ad 8), .ref (ad 9), .ref (ad 10), .int 0, .ref (ad 15), .ref (ad 16)]) := (hX 2 (by decide))
  refine xcVi E hs hQ hml hl.1 2 (fX1_hasThing l g ad hD S hX a1) mX1_hasThing q832 (by decide) c_2 rfl rfl ⟨by decide, by decide⟩ ⟨by decide, by decide⟩ (by decide) rfl dX11_rate_5 (fun r3 S3 H locs hp3 hQ _ => ?_)
  obtain ⟨rfl, rfl⟩ := hp3
  refine lv_if_eq (tgt := 21) hx hb dX11_rate_8 (by decide) (fun k_4 => ?_) (fun k_4 => absurd k_4 (by decide))
  refine lv_bipush (v := (-2)) hx hb dX11_rate_21 (by decide) ?_
  exact xri E hr hlk hQ (⟨rfl, rfl⟩) dX11_rate_23
set_option maxHeartbeats 4000000 in
set_option maxRecDepth 100000 in
theorem fX11_drawn (l : Launch) (g : GG) (ad : Nat → Nat) (hD : Dj ad 122) (S : SS) (hX : ∀ i, i < 122 → S i = X0 g ad i) (a1 : Int32) (a2 : Int32) (a3 : Int32) : Met l yX11_drawn (wG (.code yX11_drawn cX11_drawn 4 (some .int))) (Rm 2) (XPre g ad 122 S [.ref (ad 0), .int a1, .int a2, .int a3]) (va_Qi (fun r S' => S = S' ∧ r = (-2)) (QB g ad 122) (FA ad 122)) 0 0 (FA ad 122) := by
  refine xmet cX11_drawn "EbbWreck" (by decide) rfl (Nat.le_of_ble_eq_true rfl) (fun p e s m below meth c E hr hlk hml hQ ls hl => ?_)
  have hx := E.1
  have hb := E.2.1
  have hs : Sp ad 122 (FA ad 122) := Sp.fa hD
  have hl : lv_has ls 4 [(0, .ref (ad 0)), (1, .int a1), (2, .int a2), (3, .int a3)] := hl
  refine lv_aload_n hx hb dX11_drawn_0 rfl (lv_at hl 0 rfl) ?_
  refine lv_iload_n hx hb dX11_drawn_1 rfl (lv_at hl 1 rfl) ?_
  refine lv_iload_n hx hb dX11_drawn_2 rfl (lv_at hl 2 rfl) ?_
  have c_1 : S 0 = .inr (11, [.ref (ad 1), .int 0, .int 0, .int (-1), .ref (ad 2), .ref (ad 20), .ref (ad 38), .ref (ad 93), .ref (ad 94), .ref (ad 95), .ref (ad 102), .ref (ad 104), .ref (ad 107), .ref (ad 111), .ref (ad 119)]) := (hX 0 (by decide))
  refine xcVi E hs hQ hml hl.1 0 (fX11_isGale l g ad hD S hX a1 a2) mX11_isGale q1396 (by decide) c_1 rfl rfl ⟨by decide, by decide⟩ ⟨by decide, by decide⟩ (by decide) rfl dX11_drawn_3 (fun r2 S2 H locs hp2 hQ _ => ?_)
  obtain ⟨rfl, rfl⟩ := hp2
  refine lv_if_eq (tgt := 17) hx hb dX11_drawn_6 (by decide) (fun k_3 => ?_) (fun k_3 => absurd k_3 (by decide))
  refine lv_bipush (v := (-2)) hx hb dX11_drawn_17 (by decide) ?_
  exact xri E hr hlk hQ (⟨rfl, rfl⟩) dX11_drawn_19
set_option maxHeartbeats 4000000 in
set_option maxRecDepth 100000 in
theorem fX11_luck (l : Launch) (g : GG) (ad : Nat → Nat) (hD : Dj ad 122) (S : SS) (hX : ∀ i, i < 122 → S i = X0 g ad i) (a1 : Int32) (a2 : Int32) (a3 : Int32) (a4 : Int32) : Met l yX11_luck (wG (.code yX11_luck cX11_luck 7 (some .int))) (Rm 2) (XPre g ad 122 S [.ref (ad 0), .int a1, .int a2, .int a3, .int a4]) (va_Qi (fun r S' => S = S' ∧ r = (-2)) (QB g ad 122) (FA ad 122)) 0 0 (FA ad 122) := by
  refine xmet cX11_luck "EbbWreck" (by decide) rfl (Nat.le_of_ble_eq_true rfl) (fun p e s m below meth c E hr hlk hml hQ ls hl => ?_)
  have hx := E.1
  have hb := E.2.1
  have hs : Sp ad 122 (FA ad 122) := Sp.fa hD
  have hl : lv_has ls 7 [(0, .ref (ad 0)), (1, .int a1), (2, .int a2), (3, .int a3), (4, .int a4)] := hl
  refine lv_aload_n hx hb dX11_luck_0 rfl (lv_at hl 0 rfl) ?_
  refine lv_iload_n hx hb dX11_luck_1 rfl (lv_at hl 1 rfl) ?_
  refine lv_iload_n hx hb dX11_luck_2 rfl (lv_at hl 3 rfl) ?_
  have c_1 : S 0 = .inr (11, [.ref (ad 1), .int 0, .int 0, .int (-1), .ref (ad 2), .ref (ad 20), .ref (ad 38), .ref (ad 93), .ref (ad 94), .ref (ad 95), .ref (ad 102), .ref (ad 104), .ref (ad 107), .ref (ad 111), .ref (ad 119)]) := (hX 0 (by decide))
  refine xcVi E hs hQ hml hl.1 0 (fX11_isGale l g ad hD S hX a1 a3) mX11_isGale q1396 (by decide) c_1 rfl rfl ⟨by decide, by decide⟩ ⟨by decide, by decide⟩ (by decide) rfl dX11_luck_3 (fun r2 S2 H locs hp2 hQ _ => ?_)
  obtain ⟨rfl, rfl⟩ := hp2
  refine lv_if_eq (tgt := 25) hx hb dX11_luck_6 (by decide) (fun k_3 => ?_) (fun k_3 => absurd k_3 (by decide))
  refine lv_bipush (v := (-2)) hx hb dX11_luck_25 (by decide) ?_
  exact xri E hr hlk hQ (⟨rfl, rfl⟩) dX11_luck_27
set_option maxHeartbeats 4000000 in
set_option maxRecDepth 100000 in
theorem fX11_waits (l : Launch) (g : GG) (ad : Nat → Nat) (hD : Dj ad 122) (S : SS) (hX : ∀ i, i < 122 → S i = X0 g ad i) (a1 : Int32) (a2 : Int32) (a3 : Int32) : Met l yX11_waits (wG (.code yX11_waits cX11_waits 4 (some .int))) (Rm 2) (XPre g ad 122 S [.ref (ad 0), .int a1, .int a2, .int a3]) (va_Qi (fun r S' => S = S' ∧ r = (-2)) (QB g ad 122) (FA ad 122)) 0 0 (FA ad 122) := by
  refine xmet cX11_waits "EbbWreck" (by decide) rfl (Nat.le_of_ble_eq_true rfl) (fun p e s m below meth c E hr hlk hml hQ ls hl => ?_)
  have hx := E.1
  have hb := E.2.1
  have hs : Sp ad 122 (FA ad 122) := Sp.fa hD
  have hl : lv_has ls 4 [(0, .ref (ad 0)), (1, .int a1), (2, .int a2), (3, .int a3)] := hl
  refine lv_aload_n hx hb dX11_waits_0 rfl (lv_at hl 0 rfl) ?_
  refine lv_iload_n hx hb dX11_waits_1 rfl (lv_at hl 1 rfl) ?_
  refine lv_iload_n hx hb dX11_waits_2 rfl (lv_at hl 3 rfl) ?_
  have c_1 : S 0 = .inr (11, [.ref (ad 1), .int 0, .int 0, .int (-1), .ref (ad 2), .ref (ad 20), .ref (ad 38), .ref (ad 93), .ref (ad 94), .ref (ad 95), .ref (ad 102), .ref (ad 104), .ref (ad 107), .ref (ad 111), .ref (ad 119)]) := (hX 0 (by decide))
  refine xcVi E hs hQ hml hl.1 0 (fX11_isGale l g ad hD S hX a1 a3) mX11_isGale q1396 (by decide) c_1 rfl rfl ⟨by decide, by decide⟩ ⟨by decide, by decide⟩ (by decide) rfl dX11_waits_3 (fun r2 S2 H locs hp2 hQ _ => ?_)
  obtain ⟨rfl, rfl⟩ := hp2
  refine lv_if_eq (tgt := 16) hx hb dX11_waits_6 (by decide) (fun k_3 => ?_) (fun k_3 => absurd k_3 (by decide))
  refine lv_bipush (v := (-2)) hx hb dX11_waits_16 (by decide) ?_
  exact xri E hr hlk hQ (⟨rfl, rfl⟩) dX11_waits_18
