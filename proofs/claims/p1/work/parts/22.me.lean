set_option maxHeartbeats 4000000 in
set_option maxRecDepth 100000 in
theorem fX12_image_0 (l : Launch) (g : GG) (ad : Nat → Nat) (hD : Dj ad 20) (S : SS) (hX : ∀ i, i < 20 → S i = M0 g ad i) : Met l yX12_image (wG (.code yX12_image cX12_image 2 (some .int))) (Rm 2) (XPre g ad 20 S [.ref (ad 0), .int 0]) (va_Qi (fun r _ => r = ansImage 0) (QB g ad 20) (FA ad 20)) 0 0 (FA ad 20) := by
  refine xmet cX12_image "EbbWreckModel" (by decide) rfl (Nat.le_of_ble_eq_true rfl) (fun p e s m below meth c E hr hlk hml hQ ls hl => ?_)
  have hx := E.1
  have hb := E.2.1
  have hs : Sp ad 20 (FA ad 20) := Sp.fa hD
  have hl : lv_has ls 2 [(0, .ref (ad 0)), (1, .int 0)] := hl
  refine lv_aload_n hx hb dX12_image_0 rfl (lv_at hl 0 rfl) ?_
  refine lv_iconst (v := 0) hx hb dX12_image_1 (by decide) ?_
  have c_1 : S 0 = .inr (12, [.int 0, .ref (ad 1), .ref (ad 2), .ref (ad 3), .ref (ad 4), .ref (ad 5), .int 0, .int 0, .int 0, .int 0, .int 0, .long 0, .int 0, .int 0, .int 0, .int (-1), .ref (ad 6), .ref (ad 7), .ref (ad 8), .ref (ad 9), .ref (ad 10), .ref (ad 11), .ref (ad 12), .ref (ad 13), .ref (ad 14), .ref (ad 15), .int 0, .int 0, .ref (ad 16), .int 0, .int 0, .int 0, .int 0, .int 0, .ref (ad 17), .ref (ad 18), .int 0, .ref (ad 19)]) := (hX 0 (by decide))
  refine xputi E hs hQ 0 (by decide) c_1 rfl 0 (by decide) q1468 rfl rfl (Nat.le_of_ble_eq_true rfl) dX12_image_2 (fun H locs S2 e2 hQ => ?_)
  have hX : ∀ i, i < 20 → S2 i = M0 g ad i := same_up hX e2 rfl
  refine lv_iload_n hx hb dX12_image_5 rfl (lv_at hl 1 rfl) ?_
  refine lv_i2l (v := 0) hx hb dX12_image_6 (by decide) ?_
  refine lv_lconst (v := 0) hx hb dX12_image_7 (by decide) ?_
  refine lv_ldc2 (v := 2) hx hb E.2.2.1 (E.2.2.2.1 _ q1754) dX12_image_8 ?_
  refine xcSi E hs hQ hml hl.1 (uX12_in l g ad _ hD S2 0 0 2) mX12_in q1591 rfl ⟨by decide, by decide⟩ ⟨by decide, by decide⟩ (Nat.le_of_ble_eq_true rfl) rfl dX12_image_11 (fun r3 S3 H locs hp3 hQ => ?_)
  obtain ⟨rfl, hp3⟩ := hp3
  have hz3 : r3 = 1 := by
    rcases hp3 with ⟨h, _⟩ | ⟨_, h⟩
    · exact h
    · exact absurd (by decide) h
  subst hz3
  refine lv_if_ne (tgt := 20) hx hb dX12_image_14 (by decide) (fun k_4 => ?_) (fun k_4 => absurd k_4 (by decide))
  refine lv_aload_n hx hb dX12_image_20 rfl (lv_at hl 0 rfl) ?_
  refine lv_iconst (v := 0) hx hb dX12_image_21 (by decide) ?_
  refine lv_iconst (v := 1) hx hb dX12_image_22 (by decide) ?_
  refine lv_iload_n hx hb dX12_image_23 rfl (lv_at hl 1 rfl) ?_
  refine lv_iadd hx hb dX12_image_24 ?_
  refine sb_at (P := fun z => W _ _ _ _ _ _ _ _ _ _ _ _ _ _ _ (F0 _ _ _ (.int z :: _))) (show (1 : Int32) + 0 = 1 by decide) ?_
  have c_5 : S2 6 = .inl (g.2 0, 5, .inl zf) := (hX 6 (by decide))
  have c_6 : S2 7 = .inl (g.2 0, 50, .inl zf) := (hX 7 (by decide))
  have c_7 : S2 8 = .inl (g.2 0, 120, .inl zf) := (hX 8 (by decide))
  have c_8 : S2 9 = .inl (g.2 0, 120, .inl zf) := (hX 9 (by decide))
  have c_9 : S2 10 = .inl (g.2 0, 120, .inl zf) := (hX 10 (by decide))
  have c_10 : S2 11 = .inl (g.2 0, 15, .inl zf) := (hX 11 (by decide))
  have c_11 : S2 12 = .inl (g.2 0, 800, .inl zf) := (hX 12 (by decide))
  have c_12 : S2 0 = .inr (12, [.int 0, .ref (ad 1), .ref (ad 2), .ref (ad 3), .ref (ad 4), .ref (ad 5), .int 0, .int 0, .int 0, .int 0, .int 0, .long 0, .int 0, .int 0, .int 0, .int (-1), .ref (ad 6), .ref (ad 7), .ref (ad 8), .ref (ad 9), .ref (ad 10), .ref (ad 11), .ref (ad 12), .ref (ad 13), .ref (ad 14), .ref (ad 15), .int 0, .int 0, .ref (ad 16), .int 0, .int 0, .int 0, .int 0, .int 0, .ref (ad 17), .ref (ad 18), .int 0, .ref (ad 19)]) := (hX 0 (by decide))
  refine xcVv E hs hQ hml hl.1 0 (copyShore_0_1 l g ad hD S2 zf zf zf zf zf zf zf c_12 c_5 c_6 c_7 c_8 c_9 c_10 c_11) mX12_copyShore q1739 (by decide) c_12 rfl rfl ⟨by decide, by decide⟩ ⟨by decide, by decide⟩ (Nat.le_of_ble_eq_true rfl) rfl dX12_image_25 (fun S13 H locs hp13 hQ _ => ?_)
  obtain ⟨o13, ⟨f13_6, v13_6⟩, ⟨f13_7, v13_7⟩, ⟨f13_8, v13_8⟩, ⟨f13_9, v13_9⟩, ⟨f13_10, v13_10⟩, ⟨f13_11, v13_11⟩, ⟨f13_12, v13_12⟩⟩ := hp13
  refine lv_aload_n hx hb dX12_image_28 rfl (lv_at hl 0 rfl) ?_
  have c_14 : S13 0 = .inr (12, [.int 0, .ref (ad 1), .ref (ad 2), .ref (ad 3), .ref (ad 4), .ref (ad 5), .int 0, .int 0, .int 0, .int 0, .int 0, .long 0, .int 0, .int 0, .int 0, .int (-1), .ref (ad 6), .ref (ad 7), .ref (ad 8), .ref (ad 9), .ref (ad 10), .ref (ad 11), .ref (ad 12), .ref (ad 13), .ref (ad 14), .ref (ad 15), .int 0, .int 0, .ref (ad 16), .int 0, .int 0, .int 0, .int 0, .int 0, .ref (ad 17), .ref (ad 18), .int 0, .ref (ad 19)]) := ((o13 0 (by decide)).trans c_12)
  refine xget E hQ 0 (by decide) c_14 rfl 23 (by decide) q1491 rfl dX12_image_29 ?_
  refine lv_iload_n hx hb dX12_image_32 rfl (lv_at hl 1 rfl) ?_
  refine lv_iconst (v := 1) hx hb dX12_image_33 (by decide) ?_
  have c_15 : S13 13 = .inl (g.2 3, 3, .inl zf) := ((o13 13 (by decide)).trans (hX 13 (by decide)))
  refine xzast E hs hQ 13 (by decide) c_15 (vp_in_lit 0 3 (by decide)) dX12_image_34 (fun H locs S16 e16 hQ => ?_)
  have u16 : S16 13 = .inl (g.2 3, 3, .inl (upd zf (0 : Int32).toNatClampNeg (vp_nar .boolean 1))) := up_at e16 rfl
  refine lv_iconst (v := 0) hx hb dX12_image_35 (by decide) ?_
  have c_17 : S16 6 = .inl (g.2 0, 5, .inl f13_6) := (up_ne e16 (by decide) v13_6)
  have c_18 : S16 7 = .inl (g.2 0, 50, .inl f13_7) := (up_ne e16 (by decide) v13_7)
  have c_19 : S16 8 = .inl (g.2 0, 120, .inl f13_8) := (up_ne e16 (by decide) v13_8)
  have c_20 : S16 9 = .inl (g.2 0, 120, .inl f13_9) := (up_ne e16 (by decide) v13_9)
  have c_21 : S16 10 = .inl (g.2 0, 120, .inl f13_10) := (up_ne e16 (by decide) v13_10)
  have c_22 : S16 11 = .inl (g.2 0, 15, .inl f13_11) := (up_ne e16 (by decide) v13_11)
  have c_23 : S16 12 = .inl (g.2 0, 800, .inl f13_12) := (up_ne e16 (by decide) v13_12)
  exact xri E hr hlk hQ (by decide) dX12_image_36
set_option maxHeartbeats 4000000 in
set_option maxRecDepth 100000 in
theorem fX12_image_1 (l : Launch) (g : GG) (ad : Nat → Nat) (hD : Dj ad 20) (S : SS) (hX : ∀ i, i < 20 → S i = M0 g ad i) : Met l yX12_image (wG (.code yX12_image cX12_image 2 (some .int))) (Rm 2) (XPre g ad 20 S [.ref (ad 0), .int 1]) (va_Qi (fun r _ => r = ansImage 1) (QB g ad 20) (FA ad 20)) 0 0 (FA ad 20) := by
  refine xmet cX12_image "EbbWreckModel" (by decide) rfl (Nat.le_of_ble_eq_true rfl) (fun p e s m below meth c E hr hlk hml hQ ls hl => ?_)
  have hx := E.1
  have hb := E.2.1
  have hs : Sp ad 20 (FA ad 20) := Sp.fa hD
  have hl : lv_has ls 2 [(0, .ref (ad 0)), (1, .int 1)] := hl
  refine lv_aload_n hx hb dX12_image_0 rfl (lv_at hl 0 rfl) ?_
  refine lv_iconst (v := 0) hx hb dX12_image_1 (by decide) ?_
  have c_1 : S 0 = .inr (12, [.int 0, .ref (ad 1), .ref (ad 2), .ref (ad 3), .ref (ad 4), .ref (ad 5), .int 0, .int 0, .int 0, .int 0, .int 0, .long 0, .int 0, .int 0, .int 0, .int (-1), .ref (ad 6), .ref (ad 7), .ref (ad 8), .ref (ad 9), .ref (ad 10), .ref (ad 11), .ref (ad 12), .ref (ad 13), .ref (ad 14), .ref (ad 15), .int 0, .int 0, .ref (ad 16), .int 0, .int 0, .int 0, .int 0, .int 0, .ref (ad 17), .ref (ad 18), .int 0, .ref (ad 19)]) := (hX 0 (by decide))
  refine xputi E hs hQ 0 (by decide) c_1 rfl 0 (by decide) q1468 rfl rfl (Nat.le_of_ble_eq_true rfl) dX12_image_2 (fun H locs S2 e2 hQ => ?_)
  have hX : ∀ i, i < 20 → S2 i = M0 g ad i := same_up hX e2 rfl
  refine lv_iload_n hx hb dX12_image_5 rfl (lv_at hl 1 rfl) ?_
  refine lv_i2l (v := 1) hx hb dX12_image_6 (by decide) ?_
  refine lv_lconst (v := 0) hx hb dX12_image_7 (by decide) ?_
  refine lv_ldc2 (v := 2) hx hb E.2.2.1 (E.2.2.2.1 _ q1754) dX12_image_8 ?_
  refine xcSi E hs hQ hml hl.1 (uX12_in l g ad _ hD S2 1 0 2) mX12_in q1591 rfl ⟨by decide, by decide⟩ ⟨by decide, by decide⟩ (Nat.le_of_ble_eq_true rfl) rfl dX12_image_11 (fun r3 S3 H locs hp3 hQ => ?_)
  obtain ⟨rfl, hp3⟩ := hp3
  have hz3 : r3 = 1 := by
    rcases hp3 with ⟨h, _⟩ | ⟨_, h⟩
    · exact h
    · exact absurd (by decide) h
  subst hz3
  refine lv_if_ne (tgt := 20) hx hb dX12_image_14 (by decide) (fun k_4 => ?_) (fun k_4 => absurd k_4 (by decide))
  refine lv_aload_n hx hb dX12_image_20 rfl (lv_at hl 0 rfl) ?_
  refine lv_iconst (v := 0) hx hb dX12_image_21 (by decide) ?_
  refine lv_iconst (v := 1) hx hb dX12_image_22 (by decide) ?_
  refine lv_iload_n hx hb dX12_image_23 rfl (lv_at hl 1 rfl) ?_
  refine lv_iadd hx hb dX12_image_24 ?_
  refine sb_at (P := fun z => W _ _ _ _ _ _ _ _ _ _ _ _ _ _ _ (F0 _ _ _ (.int z :: _))) (show (1 : Int32) + 1 = 2 by decide) ?_
  have c_5 : S2 6 = .inl (g.2 0, 5, .inl zf) := (hX 6 (by decide))
  have c_6 : S2 7 = .inl (g.2 0, 50, .inl zf) := (hX 7 (by decide))
  have c_7 : S2 8 = .inl (g.2 0, 120, .inl zf) := (hX 8 (by decide))
  have c_8 : S2 9 = .inl (g.2 0, 120, .inl zf) := (hX 9 (by decide))
  have c_9 : S2 10 = .inl (g.2 0, 120, .inl zf) := (hX 10 (by decide))
  have c_10 : S2 11 = .inl (g.2 0, 15, .inl zf) := (hX 11 (by decide))
  have c_11 : S2 12 = .inl (g.2 0, 800, .inl zf) := (hX 12 (by decide))
  have c_12 : S2 0 = .inr (12, [.int 0, .ref (ad 1), .ref (ad 2), .ref (ad 3), .ref (ad 4), .ref (ad 5), .int 0, .int 0, .int 0, .int 0, .int 0, .long 0, .int 0, .int 0, .int 0, .int (-1), .ref (ad 6), .ref (ad 7), .ref (ad 8), .ref (ad 9), .ref (ad 10), .ref (ad 11), .ref (ad 12), .ref (ad 13), .ref (ad 14), .ref (ad 15), .int 0, .int 0, .ref (ad 16), .int 0, .int 0, .int 0, .int 0, .int 0, .ref (ad 17), .ref (ad 18), .int 0, .ref (ad 19)]) := (hX 0 (by decide))
  refine xcVv E hs hQ hml hl.1 0 (copyShore_0_2 l g ad hD S2 zf zf zf zf zf zf zf c_12 c_5 c_6 c_7 c_8 c_9 c_10 c_11) mX12_copyShore q1739 (by decide) c_12 rfl rfl ⟨by decide, by decide⟩ ⟨by decide, by decide⟩ (Nat.le_of_ble_eq_true rfl) rfl dX12_image_25 (fun S13 H locs hp13 hQ _ => ?_)
  obtain ⟨o13, ⟨f13_6, v13_6⟩, ⟨f13_7, v13_7⟩, ⟨f13_8, v13_8⟩, ⟨f13_9, v13_9⟩, ⟨f13_10, v13_10⟩, ⟨f13_11, v13_11⟩, ⟨f13_12, v13_12⟩⟩ := hp13
  refine lv_aload_n hx hb dX12_image_28 rfl (lv_at hl 0 rfl) ?_
  have c_14 : S13 0 = .inr (12, [.int 0, .ref (ad 1), .ref (ad 2), .ref (ad 3), .ref (ad 4), .ref (ad 5), .int 0, .int 0, .int 0, .int 0, .int 0, .long 0, .int 0, .int 0, .int 0, .int (-1), .ref (ad 6), .ref (ad 7), .ref (ad 8), .ref (ad 9), .ref (ad 10), .ref (ad 11), .ref (ad 12), .ref (ad 13), .ref (ad 14), .ref (ad 15), .int 0, .int 0, .ref (ad 16), .int 0, .int 0, .int 0, .int 0, .int 0, .ref (ad 17), .ref (ad 18), .int 0, .ref (ad 19)]) := ((o13 0 (by decide)).trans c_12)
  refine xget E hQ 0 (by decide) c_14 rfl 23 (by decide) q1491 rfl dX12_image_29 ?_
  refine lv_iload_n hx hb dX12_image_32 rfl (lv_at hl 1 rfl) ?_
  refine lv_iconst (v := 1) hx hb dX12_image_33 (by decide) ?_
  have c_15 : S13 13 = .inl (g.2 3, 3, .inl zf) := ((o13 13 (by decide)).trans (hX 13 (by decide)))
  refine xzast E hs hQ 13 (by decide) c_15 (vp_in_lit 1 3 (by decide)) dX12_image_34 (fun H locs S16 e16 hQ => ?_)
  have u16 : S16 13 = .inl (g.2 3, 3, .inl (upd zf (1 : Int32).toNatClampNeg (vp_nar .boolean 1))) := up_at e16 rfl
  refine lv_iconst (v := 0) hx hb dX12_image_35 (by decide) ?_
  have c_17 : S16 6 = .inl (g.2 0, 5, .inl f13_6) := (up_ne e16 (by decide) v13_6)
  have c_18 : S16 7 = .inl (g.2 0, 50, .inl f13_7) := (up_ne e16 (by decide) v13_7)
  have c_19 : S16 8 = .inl (g.2 0, 120, .inl f13_8) := (up_ne e16 (by decide) v13_8)
  have c_20 : S16 9 = .inl (g.2 0, 120, .inl f13_9) := (up_ne e16 (by decide) v13_9)
  have c_21 : S16 10 = .inl (g.2 0, 120, .inl f13_10) := (up_ne e16 (by decide) v13_10)
  have c_22 : S16 11 = .inl (g.2 0, 15, .inl f13_11) := (up_ne e16 (by decide) v13_11)
  have c_23 : S16 12 = .inl (g.2 0, 800, .inl f13_12) := (up_ne e16 (by decide) v13_12)
  exact xri E hr hlk hQ (by decide) dX12_image_36
set_option maxHeartbeats 4000000 in
set_option maxRecDepth 100000 in
theorem fX12_image_2 (l : Launch) (g : GG) (ad : Nat → Nat) (hD : Dj ad 20) (S : SS) (hX : ∀ i, i < 20 → S i = M0 g ad i) : Met l yX12_image (wG (.code yX12_image cX12_image 2 (some .int))) (Rm 2) (XPre g ad 20 S [.ref (ad 0), .int 2]) (va_Qi (fun r _ => r = ansImage 2) (QB g ad 20) (FA ad 20)) 0 0 (FA ad 20) := by
  refine xmet cX12_image "EbbWreckModel" (by decide) rfl (Nat.le_of_ble_eq_true rfl) (fun p e s m below meth c E hr hlk hml hQ ls hl => ?_)
  have hx := E.1
  have hb := E.2.1
  have hs : Sp ad 20 (FA ad 20) := Sp.fa hD
  have hl : lv_has ls 2 [(0, .ref (ad 0)), (1, .int 2)] := hl
  refine lv_aload_n hx hb dX12_image_0 rfl (lv_at hl 0 rfl) ?_
  refine lv_iconst (v := 0) hx hb dX12_image_1 (by decide) ?_
  have c_1 : S 0 = .inr (12, [.int 0, .ref (ad 1), .ref (ad 2), .ref (ad 3), .ref (ad 4), .ref (ad 5), .int 0, .int 0, .int 0, .int 0, .int 0, .long 0, .int 0, .int 0, .int 0, .int (-1), .ref (ad 6), .ref (ad 7), .ref (ad 8), .ref (ad 9), .ref (ad 10), .ref (ad 11), .ref (ad 12), .ref (ad 13), .ref (ad 14), .ref (ad 15), .int 0, .int 0, .ref (ad 16), .int 0, .int 0, .int 0, .int 0, .int 0, .ref (ad 17), .ref (ad 18), .int 0, .ref (ad 19)]) := (hX 0 (by decide))
  refine xputi E hs hQ 0 (by decide) c_1 rfl 0 (by decide) q1468 rfl rfl (Nat.le_of_ble_eq_true rfl) dX12_image_2 (fun H locs S2 e2 hQ => ?_)
  have hX : ∀ i, i < 20 → S2 i = M0 g ad i := same_up hX e2 rfl
  refine lv_iload_n hx hb dX12_image_5 rfl (lv_at hl 1 rfl) ?_
  refine lv_i2l (v := 2) hx hb dX12_image_6 (by decide) ?_
  refine lv_lconst (v := 0) hx hb dX12_image_7 (by decide) ?_
  refine lv_ldc2 (v := 2) hx hb E.2.2.1 (E.2.2.2.1 _ q1754) dX12_image_8 ?_
  refine xcSi E hs hQ hml hl.1 (uX12_in l g ad _ hD S2 2 0 2) mX12_in q1591 rfl ⟨by decide, by decide⟩ ⟨by decide, by decide⟩ (Nat.le_of_ble_eq_true rfl) rfl dX12_image_11 (fun r3 S3 H locs hp3 hQ => ?_)
  obtain ⟨rfl, hp3⟩ := hp3
  have hz3 : r3 = 1 := by
    rcases hp3 with ⟨h, _⟩ | ⟨_, h⟩
    · exact h
    · exact absurd (by decide) h
  subst hz3
  refine lv_if_ne (tgt := 20) hx hb dX12_image_14 (by decide) (fun k_4 => ?_) (fun k_4 => absurd k_4 (by decide))
  refine lv_aload_n hx hb dX12_image_20 rfl (lv_at hl 0 rfl) ?_
  refine lv_iconst (v := 0) hx hb dX12_image_21 (by decide) ?_
  refine lv_iconst (v := 1) hx hb dX12_image_22 (by decide) ?_
  refine lv_iload_n hx hb dX12_image_23 rfl (lv_at hl 1 rfl) ?_
  refine lv_iadd hx hb dX12_image_24 ?_
  refine sb_at (P := fun z => W _ _ _ _ _ _ _ _ _ _ _ _ _ _ _ (F0 _ _ _ (.int z :: _))) (show (1 : Int32) + 2 = 3 by decide) ?_
  have c_5 : S2 6 = .inl (g.2 0, 5, .inl zf) := (hX 6 (by decide))
  have c_6 : S2 7 = .inl (g.2 0, 50, .inl zf) := (hX 7 (by decide))
  have c_7 : S2 8 = .inl (g.2 0, 120, .inl zf) := (hX 8 (by decide))
  have c_8 : S2 9 = .inl (g.2 0, 120, .inl zf) := (hX 9 (by decide))
  have c_9 : S2 10 = .inl (g.2 0, 120, .inl zf) := (hX 10 (by decide))
  have c_10 : S2 11 = .inl (g.2 0, 15, .inl zf) := (hX 11 (by decide))
  have c_11 : S2 12 = .inl (g.2 0, 800, .inl zf) := (hX 12 (by decide))
  have c_12 : S2 0 = .inr (12, [.int 0, .ref (ad 1), .ref (ad 2), .ref (ad 3), .ref (ad 4), .ref (ad 5), .int 0, .int 0, .int 0, .int 0, .int 0, .long 0, .int 0, .int 0, .int 0, .int (-1), .ref (ad 6), .ref (ad 7), .ref (ad 8), .ref (ad 9), .ref (ad 10), .ref (ad 11), .ref (ad 12), .ref (ad 13), .ref (ad 14), .ref (ad 15), .int 0, .int 0, .ref (ad 16), .int 0, .int 0, .int 0, .int 0, .int 0, .ref (ad 17), .ref (ad 18), .int 0, .ref (ad 19)]) := (hX 0 (by decide))
  refine xcVv E hs hQ hml hl.1 0 (copyShore_0_3 l g ad hD S2 zf zf zf zf zf zf zf c_12 c_5 c_6 c_7 c_8 c_9 c_10 c_11) mX12_copyShore q1739 (by decide) c_12 rfl rfl ⟨by decide, by decide⟩ ⟨by decide, by decide⟩ (Nat.le_of_ble_eq_true rfl) rfl dX12_image_25 (fun S13 H locs hp13 hQ _ => ?_)
  obtain ⟨o13, ⟨f13_6, v13_6⟩, ⟨f13_7, v13_7⟩, ⟨f13_8, v13_8⟩, ⟨f13_9, v13_9⟩, ⟨f13_10, v13_10⟩, ⟨f13_11, v13_11⟩, ⟨f13_12, v13_12⟩⟩ := hp13
  refine lv_aload_n hx hb dX12_image_28 rfl (lv_at hl 0 rfl) ?_
  have c_14 : S13 0 = .inr (12, [.int 0, .ref (ad 1), .ref (ad 2), .ref (ad 3), .ref (ad 4), .ref (ad 5), .int 0, .int 0, .int 0, .int 0, .int 0, .long 0, .int 0, .int 0, .int 0, .int (-1), .ref (ad 6), .ref (ad 7), .ref (ad 8), .ref (ad 9), .ref (ad 10), .ref (ad 11), .ref (ad 12), .ref (ad 13), .ref (ad 14), .ref (ad 15), .int 0, .int 0, .ref (ad 16), .int 0, .int 0, .int 0, .int 0, .int 0, .ref (ad 17), .ref (ad 18), .int 0, .ref (ad 19)]) := ((o13 0 (by decide)).trans c_12)
  refine xget E hQ 0 (by decide) c_14 rfl 23 (by decide) q1491 rfl dX12_image_29 ?_
  refine lv_iload_n hx hb dX12_image_32 rfl (lv_at hl 1 rfl) ?_
  refine lv_iconst (v := 1) hx hb dX12_image_33 (by decide) ?_
  have c_15 : S13 13 = .inl (g.2 3, 3, .inl zf) := ((o13 13 (by decide)).trans (hX 13 (by decide)))
  refine xzast E hs hQ 13 (by decide) c_15 (vp_in_lit 2 3 (by decide)) dX12_image_34 (fun H locs S16 e16 hQ => ?_)
  have u16 : S16 13 = .inl (g.2 3, 3, .inl (upd zf (2 : Int32).toNatClampNeg (vp_nar .boolean 1))) := up_at e16 rfl
  refine lv_iconst (v := 0) hx hb dX12_image_35 (by decide) ?_
  have c_17 : S16 6 = .inl (g.2 0, 5, .inl f13_6) := (up_ne e16 (by decide) v13_6)
  have c_18 : S16 7 = .inl (g.2 0, 50, .inl f13_7) := (up_ne e16 (by decide) v13_7)
  have c_19 : S16 8 = .inl (g.2 0, 120, .inl f13_8) := (up_ne e16 (by decide) v13_8)
  have c_20 : S16 9 = .inl (g.2 0, 120, .inl f13_9) := (up_ne e16 (by decide) v13_9)
  have c_21 : S16 10 = .inl (g.2 0, 120, .inl f13_10) := (up_ne e16 (by decide) v13_10)
  have c_22 : S16 11 = .inl (g.2 0, 15, .inl f13_11) := (up_ne e16 (by decide) v13_11)
  have c_23 : S16 12 = .inl (g.2 0, 800, .inl f13_12) := (up_ne e16 (by decide) v13_12)
  exact xri E hr hlk hQ (by decide) dX12_image_36
set_option maxHeartbeats 4000000 in
set_option maxRecDepth 100000 in
theorem fX12_image_o (l : Launch) (g : GG) (ad : Nat → Nat) (hD : Dj ad 20) (S : SS) (a1 : Int32) (ho : a1 < 0 ∨ 3 ≤ a1) (hX : ∀ i, i < 20 → S i = M0 g ad i) : Met l yX12_image (wG (.code yX12_image cX12_image 2 (some .int))) (Rm 2) (XPre g ad 20 S [.ref (ad 0), .int a1]) (va_Qi (fun r _ => r = ansImage a1) (QB g ad 20) (FA ad 20)) 0 0 (FA ad 20) := by
  refine xmet cX12_image "EbbWreckModel" (by decide) rfl (Nat.le_of_ble_eq_true rfl) (fun p e s m below meth c E hr hlk hml hQ ls hl => ?_)
  have hx := E.1
  have hb := E.2.1
  have hs : Sp ad 20 (FA ad 20) := Sp.fa hD
  have hl : lv_has ls 2 [(0, .ref (ad 0)), (1, .int a1)] := hl
  refine lv_aload_n hx hb dX12_image_0 rfl (lv_at hl 0 rfl) ?_
  refine lv_iconst (v := 0) hx hb dX12_image_1 (by decide) ?_
  have c_1 : S 0 = .inr (12, [.int 0, .ref (ad 1), .ref (ad 2), .ref (ad 3), .ref (ad 4), .ref (ad 5), .int 0, .int 0, .int 0, .int 0, .int 0, .long 0, .int 0, .int 0, .int 0, .int (-1), .ref (ad 6), .ref (ad 7), .ref (ad 8), .ref (ad 9), .ref (ad 10), .ref (ad 11), .ref (ad 12), .ref (ad 13), .ref (ad 14), .ref (ad 15), .int 0, .int 0, .ref (ad 16), .int 0, .int 0, .int 0, .int 0, .int 0, .ref (ad 17), .ref (ad 18), .int 0, .ref (ad 19)]) := (hX 0 (by decide))
  refine xputi E hs hQ 0 (by decide) c_1 rfl 0 (by decide) q1468 rfl rfl (Nat.le_of_ble_eq_true rfl) dX12_image_2 (fun H locs S2 e2 hQ => ?_)
  have hX : ∀ i, i < 20 → S2 i = M0 g ad i := same_up hX e2 rfl
  refine lv_iload_n hx hb dX12_image_5 rfl (lv_at hl 1 rfl) ?_
  refine lv_i2l hx hb dX12_image_6 rfl ?_
  refine lv_lconst (v := 0) hx hb dX12_image_7 (by decide) ?_
  refine lv_ldc2 (v := 2) hx hb E.2.2.1 (E.2.2.2.1 _ q1754) dX12_image_8 ?_
  refine xcSi E hs hQ hml hl.1 (uX12_in l g ad _ hD S2 a1.toInt64 0 2) mX12_in q1591 rfl ⟨by decide, by decide⟩ ⟨by decide, by decide⟩ (Nat.le_of_ble_eq_true rfl) rfl dX12_image_11 (fun r3 S3 H locs hp3 hQ => ?_)
  obtain ⟨rfl, hp3⟩ := hp3
  have hz3 : r3 = 0 := by
    rcases hp3 with ⟨_, h1, h2⟩ | ⟨h, _⟩
    · exfalso; have h3 := ho; simp only [i32_lt, i32_le, i32_eq, i64_lt, i64_le, w64, l_0, l_1, l_2, l_3, l_4, l_60, l_m1, L_0, L_2, L_3, L_9] at h1 h2 h3; omega
    · exact h
  subst hz3
  refine lv_if_ne (tgt := 20) hx hb dX12_image_14 (by decide) (fun k_4 => absurd k_4 (by decide)) (fun k_4 => ?_)
  refine lv_bipush (v := (-2)) hx hb dX12_image_17 (by decide) ?_
  exact xri E hr hlk hQ (by try simp only [i32_lt, i32_le, i32_eq, i64_lt, i64_le, w64, l_0, l_1, l_2, l_3, l_4, l_60, l_m1, L_0, L_2, L_3, L_9] at ho; unfold ansImage; (repeat' split) <;> first | rfl | omega) dX12_image_19
set_option maxHeartbeats 4000000 in
set_option maxRecDepth 100000 in
theorem tells_w (l : Launch) (g : GG) (ad : Nat → Nat) (hD : Dj ad 20) (S : SS) (w1 : Nat) (a2 : Int32) (f7 : Nat → Int32) (hw : w1 < 10) (h0 : S 0 = .inr (12, [.int 0, .ref (ad 1), .ref (ad 2), .ref (ad 3), .ref (ad 4), .ref (ad 5), .int 0, .int 0, .int 0, .int 0, .int 0, .long 0, .int 0, .int 0, .int 0, .int (-1), .ref (ad 6), .ref (ad 7), .ref (ad 8), .ref (ad 9), .ref (ad 10), .ref (ad 11), .ref (ad 12), .ref (ad 13), .ref (ad 14), .ref (ad 15), .int 0, .int 0, .ref (ad 16), .int 0, .int 0, .int 0, .int 0, .int 0, .ref (ad 17), .ref (ad 18), .int 0, .ref (ad 19)])) (h7 : S 7 = .inl (g.2 0, 50, .inl f7)) : Met l yX12_tells (wG (.code yX12_tells cX12_tells 3 none)) (Rm 0) (XPre g ad 20 S [.ref (ad 0), .int (nI w1), .int a2]) (va_Qv (fun S' => (∀ j, j ∉ ([7] : List Nat) → S' j = S j) ∧ (∃ f : Nat → Int32, S' 7 = .inl (g.2 0, 50, .inl f))) (QB g ad 20) (FA ad 20)) 0 0 (FA ad 20) := by
  refine xmet cX12_tells "EbbWreckModel" (by decide) rfl (Nat.le_of_ble_eq_true rfl) (fun p e s m below meth c E hr hlk hml hQ ls hl => ?_)
  have hx := E.1
  have hb := E.2.1
  have hs : Sp ad 20 (FA ad 20) := Sp.fa hD
  have hl : lv_has ls 3 [(0, .ref (ad 0)), (1, .int (nI w1)), (2, .int a2)] := hl
  refine lv_aload_n hx hb dX12_tells_0 rfl (lv_at hl 0 rfl) ?_
  refine xget E hQ 0 (by decide) h0 rfl 17 (by decide) q1485 rfl dX12_tells_1 ?_
  refine lv_bipush (v := 40) hx hb dX12_tells_4 (by decide) ?_
  refine lv_iload_n hx hb dX12_tells_6 rfl (lv_at hl 1 rfl) ?_
  refine lv_iadd hx hb dX12_tells_7 ?_
  refine sb_at (P := fun z => W _ _ _ _ _ _ _ _ _ _ _ _ _ _ _ (F0 _ _ _ (.int z :: _))) (nI_add 40 w1) ?_
  refine lv_iload_n hx hb dX12_tells_8 rfl (lv_at hl 2 rfl) ?_
  refine xiast E hs hQ 7 (by decide) h7 (vp_in_nI (by omega) (by omega)) dX12_tells_9 (fun H locs S1 e1 hQ => ?_)
  have u1 : S1 7 = .inl (g.2 0, 50, .inl (upd f7 (nI (40 + w1) : Int32).toNatClampNeg a2)) := up_at e1 rfl
  exact xrv E hr hlk hQ (⟨fun j hj => (up_ne e1 (fun h => hj (by subst h; decide)) rfl), ⟨_, u1⟩⟩) dX12_tells_10
set_option maxHeartbeats 4000000 in
set_option maxRecDepth 100000 in
theorem clears_0 (l : Launch) (g : GG) (ad : Nat → Nat) (hD : Dj ad 20) (S : SS) (f6 : Nat → Int32) (f7 : Nat → Int32) (f8 : Nat → Int32) (h0 : S 0 = .inr (12, [.int 0, .ref (ad 1), .ref (ad 2), .ref (ad 3), .ref (ad 4), .ref (ad 5), .int 0, .int 0, .int 0, .int 0, .int 0, .long 0, .int 0, .int 0, .int 0, .int (-1), .ref (ad 6), .ref (ad 7), .ref (ad 8), .ref (ad 9), .ref (ad 10), .ref (ad 11), .ref (ad 12), .ref (ad 13), .ref (ad 14), .ref (ad 15), .int 0, .int 0, .ref (ad 16), .int 0, .int 0, .int 0, .int 0, .int 0, .ref (ad 17), .ref (ad 18), .int 0, .ref (ad 19)])) (h6 : S 6 = .inl (g.2 0, 5, .inl f6)) (h7 : S 7 = .inl (g.2 0, 50, .inl f7)) (h8 : S 8 = .inl (g.2 0, 120, .inl f8)) : Met l yX12_clears (wG (.code yX12_clears cX12_clears 2 none)) (Rm 1) (XPre g ad 20 S [.ref (ad 0)]) (va_Qv (fun S' => (∀ j, j ∉ ([6, 7, 8] : List Nat) → S' j = S j) ∧ S' 6 = .inl (g.2 0, 5, .inl (upd f6 (4 : Int32).toNatClampNeg 0)) ∧ (∃ f : Nat → Int32, S' 7 = .inl (g.2 0, 50, .inl f)) ∧ (∃ f : Nat → Int32, S' 8 = .inl (g.2 0, 120, .inl f))) (QB g ad 20) (FA ad 20)) 0 0 (FA ad 20) := by
  refine xmet cX12_clears "EbbWreckModel" (by decide) rfl (Nat.le_of_ble_eq_true rfl) (fun p e s m below meth c E hr hlk hml hQ ls hl => ?_)
  have hx := E.1
  have hb := E.2.1
  have hs : Sp ad 20 (FA ad 20) := Sp.fa hD
  have hl : lv_has ls 2 [(0, .ref (ad 0))] := hl
  refine lv_aload_n hx hb dX12_clears_0 rfl (lv_at hl 0 rfl) ?_
  refine xget E hQ 0 (by decide) h0 rfl 16 (by decide) q1484 rfl dX12_clears_1 ?_
  refine lv_iconst (v := 4) hx hb dX12_clears_4 (by decide) ?_
  refine lv_iconst (v := 0) hx hb dX12_clears_5 (by decide) ?_
  refine xiast E hs hQ 6 (by decide) h6 (vp_in_lit 4 5 (by decide)) dX12_clears_6 (fun H locs S1 e1 hQ => ?_)
  have u1 : S1 6 = .inl (g.2 0, 5, .inl (upd f6 (4 : Int32).toNatClampNeg 0)) := up_at e1 rfl
  refine lv_iconst (v := 0) hx hb dX12_clears_7 (by decide) ?_
  refine lv_istore_n (lv' := [(1, .int 0), (0, .ref (ad 0))]) hx hb dX12_clears_8 rfl hl (by decide) rfl (fun ls hl => ?_)
  refine lv_iload_n hx hb dX12_clears_9 rfl (lv_at hl 0 rfl) ?_
  refine lv_bipush (v := 10) hx hb dX12_clears_10 (by decide) ?_
  refine lv_icmp_ge (tgt := 27) hx hb dX12_clears_12 (by decide) (fun k_2 => absurd k_2 (by decide)) (fun k_2 => ?_)
  refine lv_aload_n hx hb dX12_clears_15 rfl (lv_at hl 1 rfl) ?_
  refine lv_iload_n hx hb dX12_clears_16 rfl (lv_at hl 0 rfl) ?_
  refine lv_iconst (v := 0) hx hb dX12_clears_17 (by decide) ?_
  have c_3 : S1 7 = .inl (g.2 0, 50, .inl f7) := (up_ne e1 (by decide) h7)
  have c_4 : S1 0 = .inr (12, [.int 0, .ref (ad 1), .ref (ad 2), .ref (ad 3), .ref (ad 4), .ref (ad 5), .int 0, .int 0, .int 0, .int 0, .int 0, .long 0, .int 0, .int 0, .int 0, .int (-1), .ref (ad 6), .ref (ad 7), .ref (ad 8), .ref (ad 9), .ref (ad 10), .ref (ad 11), .ref (ad 12), .ref (ad 13), .ref (ad 14), .ref (ad 15), .int 0, .int 0, .ref (ad 16), .int 0, .int 0, .int 0, .int 0, .int 0, .ref (ad 17), .ref (ad 18), .int 0, .ref (ad 19)]) := (up_ne e1 (by decide) h0)
  refine xcVv E hs hQ hml hl.1 0 (tells_w l g ad hD S1 0 0 f7 (by decide) c_4 c_3) mX12_tells q1629 (by decide) c_4 rfl rfl ⟨by decide, by decide⟩ ⟨by decide, by decide⟩ (Nat.le_of_ble_eq_true rfl) rfl dX12_clears_18 (fun S5 H locs hp5 hQ _ => ?_)
  obtain ⟨o5, ⟨f5_7, v5_7⟩⟩ := hp5
  refine lv_iinc (v := 1) (lv' := [(1, .int 1), (0, .ref (ad 0))]) hx hb dX12_clears_21 hl (k := 0) rfl (by decide) (by decide) rfl (fun ls hl => ?_)
  refine lv_goto (tgt := 9) hx hb dX12_clears_24 (by decide) ?_
  refine lv_iload_n hx hb dX12_clears_9 rfl (lv_at hl 0 rfl) ?_
  refine lv_bipush (v := 10) hx hb dX12_clears_10 (by decide) ?_
  refine lv_icmp_ge (tgt := 27) hx hb dX12_clears_12 (by decide) (fun k_6 => absurd k_6 (by decide)) (fun k_6 => ?_)
  refine lv_aload_n hx hb dX12_clears_15 rfl (lv_at hl 1 rfl) ?_
  refine lv_iload_n hx hb dX12_clears_16 rfl (lv_at hl 0 rfl) ?_
  refine lv_iconst (v := 0) hx hb dX12_clears_17 (by decide) ?_
  have c_7 : S5 0 = .inr (12, [.int 0, .ref (ad 1), .ref (ad 2), .ref (ad 3), .ref (ad 4), .ref (ad 5), .int 0, .int 0, .int 0, .int 0, .int 0, .long 0, .int 0, .int 0, .int 0, .int (-1), .ref (ad 6), .ref (ad 7), .ref (ad 8), .ref (ad 9), .ref (ad 10), .ref (ad 11), .ref (ad 12), .ref (ad 13), .ref (ad 14), .ref (ad 15), .int 0, .int 0, .ref (ad 16), .int 0, .int 0, .int 0, .int 0, .int 0, .ref (ad 17), .ref (ad 18), .int 0, .ref (ad 19)]) := ((o5 0 (by decide)).trans c_4)
  refine xcVv E hs hQ hml hl.1 0 (tells_w l g ad hD S5 1 0 f5_7 (by decide) c_7 v5_7) mX12_tells q1629 (by decide) c_7 rfl rfl ⟨by decide, by decide⟩ ⟨by decide, by decide⟩ (Nat.le_of_ble_eq_true rfl) rfl dX12_clears_18 (fun S8 H locs hp8 hQ _ => ?_)
  obtain ⟨o8, ⟨f8_7, v8_7⟩⟩ := hp8
  refine lv_iinc (v := 2) (lv' := [(1, .int 2), (0, .ref (ad 0))]) hx hb dX12_clears_21 hl (k := 0) rfl (by decide) (by decide) rfl (fun ls hl => ?_)
  refine lv_goto (tgt := 9) hx hb dX12_clears_24 (by decide) ?_
  refine lv_iload_n hx hb dX12_clears_9 rfl (lv_at hl 0 rfl) ?_
  refine lv_bipush (v := 10) hx hb dX12_clears_10 (by decide) ?_
  refine lv_icmp_ge (tgt := 27) hx hb dX12_clears_12 (by decide) (fun k_9 => absurd k_9 (by decide)) (fun k_9 => ?_)
  refine lv_aload_n hx hb dX12_clears_15 rfl (lv_at hl 1 rfl) ?_
  refine lv_iload_n hx hb dX12_clears_16 rfl (lv_at hl 0 rfl) ?_
  refine lv_iconst (v := 0) hx hb dX12_clears_17 (by decide) ?_
  have c_10 : S8 0 = .inr (12, [.int 0, .ref (ad 1), .ref (ad 2), .ref (ad 3), .ref (ad 4), .ref (ad 5), .int 0, .int 0, .int 0, .int 0, .int 0, .long 0, .int 0, .int 0, .int 0, .int (-1), .ref (ad 6), .ref (ad 7), .ref (ad 8), .ref (ad 9), .ref (ad 10), .ref (ad 11), .ref (ad 12), .ref (ad 13), .ref (ad 14), .ref (ad 15), .int 0, .int 0, .ref (ad 16), .int 0, .int 0, .int 0, .int 0, .int 0, .ref (ad 17), .ref (ad 18), .int 0, .ref (ad 19)]) := ((o8 0 (by decide)).trans c_7)
  refine xcVv E hs hQ hml hl.1 0 (tells_w l g ad hD S8 2 0 f8_7 (by decide) c_10 v8_7) mX12_tells q1629 (by decide) c_10 rfl rfl ⟨by decide, by decide⟩ ⟨by decide, by decide⟩ (Nat.le_of_ble_eq_true rfl) rfl dX12_clears_18 (fun S11 H locs hp11 hQ _ => ?_)
  obtain ⟨o11, ⟨f11_7, v11_7⟩⟩ := hp11
  refine lv_iinc (v := 3) (lv' := [(1, .int 3), (0, .ref (ad 0))]) hx hb dX12_clears_21 hl (k := 0) rfl (by decide) (by decide) rfl (fun ls hl => ?_)
  refine lv_goto (tgt := 9) hx hb dX12_clears_24 (by decide) ?_
  refine lv_iload_n hx hb dX12_clears_9 rfl (lv_at hl 0 rfl) ?_
  refine lv_bipush (v := 10) hx hb dX12_clears_10 (by decide) ?_
  refine lv_icmp_ge (tgt := 27) hx hb dX12_clears_12 (by decide) (fun k_12 => absurd k_12 (by decide)) (fun k_12 => ?_)
  refine lv_aload_n hx hb dX12_clears_15 rfl (lv_at hl 1 rfl) ?_
  refine lv_iload_n hx hb dX12_clears_16 rfl (lv_at hl 0 rfl) ?_
  refine lv_iconst (v := 0) hx hb dX12_clears_17 (by decide) ?_
  have c_13 : S11 0 = .inr (12, [.int 0, .ref (ad 1), .ref (ad 2), .ref (ad 3), .ref (ad 4), .ref (ad 5), .int 0, .int 0, .int 0, .int 0, .int 0, .long 0, .int 0, .int 0, .int 0, .int (-1), .ref (ad 6), .ref (ad 7), .ref (ad 8), .ref (ad 9), .ref (ad 10), .ref (ad 11), .ref (ad 12), .ref (ad 13), .ref (ad 14), .ref (ad 15), .int 0, .int 0, .ref (ad 16), .int 0, .int 0, .int 0, .int 0, .int 0, .ref (ad 17), .ref (ad 18), .int 0, .ref (ad 19)]) := ((o11 0 (by decide)).trans c_10)
  refine xcVv E hs hQ hml hl.1 0 (tells_w l g ad hD S11 3 0 f11_7 (by decide) c_13 v11_7) mX12_tells q1629 (by decide) c_13 rfl rfl ⟨by decide, by decide⟩ ⟨by decide, by decide⟩ (Nat.le_of_ble_eq_true rfl) rfl dX12_clears_18 (fun S14 H locs hp14 hQ _ => ?_)
  obtain ⟨o14, ⟨f14_7, v14_7⟩⟩ := hp14
  refine lv_iinc (v := 4) (lv' := [(1, .int 4), (0, .ref (ad 0))]) hx hb dX12_clears_21 hl (k := 0) rfl (by decide) (by decide) rfl (fun ls hl => ?_)
  refine lv_goto (tgt := 9) hx hb dX12_clears_24 (by decide) ?_
  refine lv_iload_n hx hb dX12_clears_9 rfl (lv_at hl 0 rfl) ?_
  refine lv_bipush (v := 10) hx hb dX12_clears_10 (by decide) ?_
  refine lv_icmp_ge (tgt := 27) hx hb dX12_clears_12 (by decide) (fun k_15 => absurd k_15 (by decide)) (fun k_15 => ?_)
  refine lv_aload_n hx hb dX12_clears_15 rfl (lv_at hl 1 rfl) ?_
  refine lv_iload_n hx hb dX12_clears_16 rfl (lv_at hl 0 rfl) ?_
  refine lv_iconst (v := 0) hx hb dX12_clears_17 (by decide) ?_
  have c_16 : S14 0 = .inr (12, [.int 0, .ref (ad 1), .ref (ad 2), .ref (ad 3), .ref (ad 4), .ref (ad 5), .int 0, .int 0, .int 0, .int 0, .int 0, .long 0, .int 0, .int 0, .int 0, .int (-1), .ref (ad 6), .ref (ad 7), .ref (ad 8), .ref (ad 9), .ref (ad 10), .ref (ad 11), .ref (ad 12), .ref (ad 13), .ref (ad 14), .ref (ad 15), .int 0, .int 0, .ref (ad 16), .int 0, .int 0, .int 0, .int 0, .int 0, .ref (ad 17), .ref (ad 18), .int 0, .ref (ad 19)]) := ((o14 0 (by decide)).trans c_13)
  refine xcVv E hs hQ hml hl.1 0 (tells_w l g ad hD S14 4 0 f14_7 (by decide) c_16 v14_7) mX12_tells q1629 (by decide) c_16 rfl rfl ⟨by decide, by decide⟩ ⟨by decide, by decide⟩ (Nat.le_of_ble_eq_true rfl) rfl dX12_clears_18 (fun S17 H locs hp17 hQ _ => ?_)
  obtain ⟨o17, ⟨f17_7, v17_7⟩⟩ := hp17
  refine lv_iinc (v := 5) (lv' := [(1, .int 5), (0, .ref (ad 0))]) hx hb dX12_clears_21 hl (k := 0) rfl (by decide) (by decide) rfl (fun ls hl => ?_)
  refine lv_goto (tgt := 9) hx hb dX12_clears_24 (by decide) ?_
  refine lv_iload_n hx hb dX12_clears_9 rfl (lv_at hl 0 rfl) ?_
  refine lv_bipush (v := 10) hx hb dX12_clears_10 (by decide) ?_
  refine lv_icmp_ge (tgt := 27) hx hb dX12_clears_12 (by decide) (fun k_18 => absurd k_18 (by decide)) (fun k_18 => ?_)
  refine lv_aload_n hx hb dX12_clears_15 rfl (lv_at hl 1 rfl) ?_
  refine lv_iload_n hx hb dX12_clears_16 rfl (lv_at hl 0 rfl) ?_
  refine lv_iconst (v := 0) hx hb dX12_clears_17 (by decide) ?_
  have c_19 : S17 0 = .inr (12, [.int 0, .ref (ad 1), .ref (ad 2), .ref (ad 3), .ref (ad 4), .ref (ad 5), .int 0, .int 0, .int 0, .int 0, .int 0, .long 0, .int 0, .int 0, .int 0, .int (-1), .ref (ad 6), .ref (ad 7), .ref (ad 8), .ref (ad 9), .ref (ad 10), .ref (ad 11), .ref (ad 12), .ref (ad 13), .ref (ad 14), .ref (ad 15), .int 0, .int 0, .ref (ad 16), .int 0, .int 0, .int 0, .int 0, .int 0, .ref (ad 17), .ref (ad 18), .int 0, .ref (ad 19)]) := ((o17 0 (by decide)).trans c_16)
  refine xcVv E hs hQ hml hl.1 0 (tells_w l g ad hD S17 5 0 f17_7 (by decide) c_19 v17_7) mX12_tells q1629 (by decide) c_19 rfl rfl ⟨by decide, by decide⟩ ⟨by decide, by decide⟩ (Nat.le_of_ble_eq_true rfl) rfl dX12_clears_18 (fun S20 H locs hp20 hQ _ => ?_)
  obtain ⟨o20, ⟨f20_7, v20_7⟩⟩ := hp20
  refine lv_iinc (v := 6) (lv' := [(1, .int 6), (0, .ref (ad 0))]) hx hb dX12_clears_21 hl (k := 0) rfl (by decide) (by decide) rfl (fun ls hl => ?_)
  refine lv_goto (tgt := 9) hx hb dX12_clears_24 (by decide) ?_
  refine lv_iload_n hx hb dX12_clears_9 rfl (lv_at hl 0 rfl) ?_
  refine lv_bipush (v := 10) hx hb dX12_clears_10 (by decide) ?_
  refine lv_icmp_ge (tgt := 27) hx hb dX12_clears_12 (by decide) (fun k_21 => absurd k_21 (by decide)) (fun k_21 => ?_)
  refine lv_aload_n hx hb dX12_clears_15 rfl (lv_at hl 1 rfl) ?_
  refine lv_iload_n hx hb dX12_clears_16 rfl (lv_at hl 0 rfl) ?_
  refine lv_iconst (v := 0) hx hb dX12_clears_17 (by decide) ?_
  have c_22 : S20 0 = .inr (12, [.int 0, .ref (ad 1), .ref (ad 2), .ref (ad 3), .ref (ad 4), .ref (ad 5), .int 0, .int 0, .int 0, .int 0, .int 0, .long 0, .int 0, .int 0, .int 0, .int (-1), .ref (ad 6), .ref (ad 7), .ref (ad 8), .ref (ad 9), .ref (ad 10), .ref (ad 11), .ref (ad 12), .ref (ad 13), .ref (ad 14), .ref (ad 15), .int 0, .int 0, .ref (ad 16), .int 0, .int 0, .int 0, .int 0, .int 0, .ref (ad 17), .ref (ad 18), .int 0, .ref (ad 19)]) := ((o20 0 (by decide)).trans c_19)
  refine xcVv E hs hQ hml hl.1 0 (tells_w l g ad hD S20 6 0 f20_7 (by decide) c_22 v20_7) mX12_tells q1629 (by decide) c_22 rfl rfl ⟨by decide, by decide⟩ ⟨by decide, by decide⟩ (Nat.le_of_ble_eq_true rfl) rfl dX12_clears_18 (fun S23 H locs hp23 hQ _ => ?_)
  obtain ⟨o23, ⟨f23_7, v23_7⟩⟩ := hp23
  refine lv_iinc (v := 7) (lv' := [(1, .int 7), (0, .ref (ad 0))]) hx hb dX12_clears_21 hl (k := 0) rfl (by decide) (by decide) rfl (fun ls hl => ?_)
  refine lv_goto (tgt := 9) hx hb dX12_clears_24 (by decide) ?_
  refine lv_iload_n hx hb dX12_clears_9 rfl (lv_at hl 0 rfl) ?_
  refine lv_bipush (v := 10) hx hb dX12_clears_10 (by decide) ?_
  refine lv_icmp_ge (tgt := 27) hx hb dX12_clears_12 (by decide) (fun k_24 => absurd k_24 (by decide)) (fun k_24 => ?_)
  refine lv_aload_n hx hb dX12_clears_15 rfl (lv_at hl 1 rfl) ?_
  refine lv_iload_n hx hb dX12_clears_16 rfl (lv_at hl 0 rfl) ?_
  refine lv_iconst (v := 0) hx hb dX12_clears_17 (by decide) ?_
  have c_25 : S23 0 = .inr (12, [.int 0, .ref (ad 1), .ref (ad 2), .ref (ad 3), .ref (ad 4), .ref (ad 5), .int 0, .int 0, .int 0, .int 0, .int 0, .long 0, .int 0, .int 0, .int 0, .int (-1), .ref (ad 6), .ref (ad 7), .ref (ad 8), .ref (ad 9), .ref (ad 10), .ref (ad 11), .ref (ad 12), .ref (ad 13), .ref (ad 14), .ref (ad 15), .int 0, .int 0, .ref (ad 16), .int 0, .int 0, .int 0, .int 0, .int 0, .ref (ad 17), .ref (ad 18), .int 0, .ref (ad 19)]) := ((o23 0 (by decide)).trans c_22)
  refine xcVv E hs hQ hml hl.1 0 (tells_w l g ad hD S23 7 0 f23_7 (by decide) c_25 v23_7) mX12_tells q1629 (by decide) c_25 rfl rfl ⟨by decide, by decide⟩ ⟨by decide, by decide⟩ (Nat.le_of_ble_eq_true rfl) rfl dX12_clears_18 (fun S26 H locs hp26 hQ _ => ?_)
  obtain ⟨o26, ⟨f26_7, v26_7⟩⟩ := hp26
  refine lv_iinc (v := 8) (lv' := [(1, .int 8), (0, .ref (ad 0))]) hx hb dX12_clears_21 hl (k := 0) rfl (by decide) (by decide) rfl (fun ls hl => ?_)
  refine lv_goto (tgt := 9) hx hb dX12_clears_24 (by decide) ?_
  refine lv_iload_n hx hb dX12_clears_9 rfl (lv_at hl 0 rfl) ?_
  refine lv_bipush (v := 10) hx hb dX12_clears_10 (by decide) ?_
  refine lv_icmp_ge (tgt := 27) hx hb dX12_clears_12 (by decide) (fun k_27 => absurd k_27 (by decide)) (fun k_27 => ?_)
  refine lv_aload_n hx hb dX12_clears_15 rfl (lv_at hl 1 rfl) ?_
  refine lv_iload_n hx hb dX12_clears_16 rfl (lv_at hl 0 rfl) ?_
  refine lv_iconst (v := 0) hx hb dX12_clears_17 (by decide) ?_
  have c_28 : S26 0 = .inr (12, [.int 0, .ref (ad 1), .ref (ad 2), .ref (ad 3), .ref (ad 4), .ref (ad 5), .int 0, .int 0, .int 0, .int 0, .int 0, .long 0, .int 0, .int 0, .int 0, .int (-1), .ref (ad 6), .ref (ad 7), .ref (ad 8), .ref (ad 9), .ref (ad 10), .ref (ad 11), .ref (ad 12), .ref (ad 13), .ref (ad 14), .ref (ad 15), .int 0, .int 0, .ref (ad 16), .int 0, .int 0, .int 0, .int 0, .int 0, .ref (ad 17), .ref (ad 18), .int 0, .ref (ad 19)]) := ((o26 0 (by decide)).trans c_25)
  refine xcVv E hs hQ hml hl.1 0 (tells_w l g ad hD S26 8 0 f26_7 (by decide) c_28 v26_7) mX12_tells q1629 (by decide) c_28 rfl rfl ⟨by decide, by decide⟩ ⟨by decide, by decide⟩ (Nat.le_of_ble_eq_true rfl) rfl dX12_clears_18 (fun S29 H locs hp29 hQ _ => ?_)
  obtain ⟨o29, ⟨f29_7, v29_7⟩⟩ := hp29
  refine lv_iinc (v := 9) (lv' := [(1, .int 9), (0, .ref (ad 0))]) hx hb dX12_clears_21 hl (k := 0) rfl (by decide) (by decide) rfl (fun ls hl => ?_)
  refine lv_goto (tgt := 9) hx hb dX12_clears_24 (by decide) ?_
  refine lv_iload_n hx hb dX12_clears_9 rfl (lv_at hl 0 rfl) ?_
  refine lv_bipush (v := 10) hx hb dX12_clears_10 (by decide) ?_
  refine lv_icmp_ge (tgt := 27) hx hb dX12_clears_12 (by decide) (fun k_30 => absurd k_30 (by decide)) (fun k_30 => ?_)
  refine lv_aload_n hx hb dX12_clears_15 rfl (lv_at hl 1 rfl) ?_
  refine lv_iload_n hx hb dX12_clears_16 rfl (lv_at hl 0 rfl) ?_
  refine lv_iconst (v := 0) hx hb dX12_clears_17 (by decide) ?_
  have c_31 : S29 0 = .inr (12, [.int 0, .ref (ad 1), .ref (ad 2), .ref (ad 3), .ref (ad 4), .ref (ad 5), .int 0, .int 0, .int 0, .int 0, .int 0, .long 0, .int 0, .int 0, .int 0, .int (-1), .ref (ad 6), .ref (ad 7), .ref (ad 8), .ref (ad 9), .ref (ad 10), .ref (ad 11), .ref (ad 12), .ref (ad 13), .ref (ad 14), .ref (ad 15), .int 0, .int 0, .ref (ad 16), .int 0, .int 0, .int 0, .int 0, .int 0, .ref (ad 17), .ref (ad 18), .int 0, .ref (ad 19)]) := ((o29 0 (by decide)).trans c_28)
  refine xcVv E hs hQ hml hl.1 0 (tells_w l g ad hD S29 9 0 f29_7 (by decide) c_31 v29_7) mX12_tells q1629 (by decide) c_31 rfl rfl ⟨by decide, by decide⟩ ⟨by decide, by decide⟩ (Nat.le_of_ble_eq_true rfl) rfl dX12_clears_18 (fun S32 H locs hp32 hQ _ => ?_)
  obtain ⟨o32, ⟨f32_7, v32_7⟩⟩ := hp32
  refine lv_iinc (v := 10) (lv' := [(1, .int 10), (0, .ref (ad 0))]) hx hb dX12_clears_21 hl (k := 0) rfl (by decide) (by decide) rfl (fun ls hl => ?_)
  refine lv_goto (tgt := 9) hx hb dX12_clears_24 (by decide) ?_
  refine lv_iload_n hx hb dX12_clears_9 rfl (lv_at hl 0 rfl) ?_
  refine lv_bipush (v := 10) hx hb dX12_clears_10 (by decide) ?_
  refine lv_icmp_ge (tgt := 27) hx hb dX12_clears_12 (by decide) (fun k_33 => ?_) (fun k_33 => absurd k_33 (by decide))
  refine lv_iconst (v := 0) hx hb dX12_clears_27 (by decide) ?_
  refine lv_istore_n (lv' := [(1, .int 0), (0, .ref (ad 0))]) hx hb dX12_clears_28 rfl hl (by decide) rfl (fun ls hl => ?_)
  refine lv_iload_n hx hb dX12_clears_29 rfl (lv_at hl 0 rfl) ?_
  refine lv_bipush (v := 24) hx hb dX12_clears_30 (by decide) ?_
  refine lv_icmp_ge (tgt := 51) hx hb dX12_clears_32 (by decide) (fun k_34 => absurd k_34 (by decide)) (fun k_34 => ?_)
  refine lv_aload_n hx hb dX12_clears_35 rfl (lv_at hl 1 rfl) ?_
  have c_35 : S32 0 = .inr (12, [.int 0, .ref (ad 1), .ref (ad 2), .ref (ad 3), .ref (ad 4), .ref (ad 5), .int 0, .int 0, .int 0, .int 0, .int 0, .long 0, .int 0, .int 0, .int 0, .int (-1), .ref (ad 6), .ref (ad 7), .ref (ad 8), .ref (ad 9), .ref (ad 10), .ref (ad 11), .ref (ad 12), .ref (ad 13), .ref (ad 14), .ref (ad 15), .int 0, .int 0, .ref (ad 16), .int 0, .int 0, .int 0, .int 0, .int 0, .ref (ad 17), .ref (ad 18), .int 0, .ref (ad 19)]) := ((o32 0 (by decide)).trans c_31)
  refine xget E hQ 0 (by decide) c_35 rfl 18 (by decide) q1486 rfl dX12_clears_36 ?_
  refine lv_bipush (v := 96) hx hb dX12_clears_39 (by decide) ?_
  refine lv_iload_n hx hb dX12_clears_41 rfl (lv_at hl 0 rfl) ?_
  refine lv_iadd hx hb dX12_clears_42 ?_
  refine sb_at (P := fun z => W _ _ _ _ _ _ _ _ _ _ _ _ _ _ _ (F0 _ _ _ (.int z :: _))) (show (96 : Int32) + 0 = 96 by decide) ?_
  refine lv_iconst (v := 0) hx hb dX12_clears_43 (by decide) ?_
  have c_36 : S32 8 = .inl (g.2 0, 120, .inl f8) := ((o32 8 (by decide)).trans ((o29 8 (by decide)).trans ((o26 8 (by decide)).trans ((o23 8 (by decide)).trans ((o20 8 (by decide)).trans ((o17 8 (by decide)).trans ((o14 8 (by decide)).trans ((o11 8 (by decide)).trans ((o8 8 (by decide)).trans ((o5 8 (by decide)).trans (up_ne e1 (by decide) h8)))))))))))
  refine xiast E hs hQ 8 (by decide) c_36 (vp_in_lit 96 120 (by decide)) dX12_clears_44 (fun H locs S37 e37 hQ => ?_)
  obtain ⟨g37, eg37⟩ : ∃ f : Nat → Int32, f = upd f8 (96 : Int32).toNatClampNeg 0 := ⟨_, rfl⟩
  rw [← eg37] at e37
  have u37 : S37 8 = .inl (g.2 0, 120, .inl g37) := up_at e37 rfl
  refine lv_iinc (v := 1) (lv' := [(1, .int 1), (0, .ref (ad 0))]) hx hb dX12_clears_45 hl (k := 0) rfl (by decide) (by decide) rfl (fun ls hl => ?_)
  refine lv_goto (tgt := 29) hx hb dX12_clears_48 (by decide) ?_
  refine lv_iload_n hx hb dX12_clears_29 rfl (lv_at hl 0 rfl) ?_
  refine lv_bipush (v := 24) hx hb dX12_clears_30 (by decide) ?_
  refine lv_icmp_ge (tgt := 51) hx hb dX12_clears_32 (by decide) (fun k_38 => absurd k_38 (by decide)) (fun k_38 => ?_)
  refine lv_aload_n hx hb dX12_clears_35 rfl (lv_at hl 1 rfl) ?_
  have c_39 : S37 0 = .inr (12, [.int 0, .ref (ad 1), .ref (ad 2), .ref (ad 3), .ref (ad 4), .ref (ad 5), .int 0, .int 0, .int 0, .int 0, .int 0, .long 0, .int 0, .int 0, .int 0, .int (-1), .ref (ad 6), .ref (ad 7), .ref (ad 8), .ref (ad 9), .ref (ad 10), .ref (ad 11), .ref (ad 12), .ref (ad 13), .ref (ad 14), .ref (ad 15), .int 0, .int 0, .ref (ad 16), .int 0, .int 0, .int 0, .int 0, .int 0, .ref (ad 17), .ref (ad 18), .int 0, .ref (ad 19)]) := (up_ne e37 (by decide) c_35)
  refine xget E hQ 0 (by decide) c_39 rfl 18 (by decide) q1486 rfl dX12_clears_36 ?_
  refine lv_bipush (v := 96) hx hb dX12_clears_39 (by decide) ?_
  refine lv_iload_n hx hb dX12_clears_41 rfl (lv_at hl 0 rfl) ?_
  refine lv_iadd hx hb dX12_clears_42 ?_
  refine sb_at (P := fun z => W _ _ _ _ _ _ _ _ _ _ _ _ _ _ _ (F0 _ _ _ (.int z :: _))) (show (96 : Int32) + 1 = 97 by decide) ?_
  refine lv_iconst (v := 0) hx hb dX12_clears_43 (by decide) ?_
  refine xiast E hs hQ 8 (by decide) u37 (vp_in_lit 97 120 (by decide)) dX12_clears_44 (fun H locs S40 e40 hQ => ?_)
  obtain ⟨g40, eg40⟩ : ∃ f : Nat → Int32, f = upd g37 (97 : Int32).toNatClampNeg 0 := ⟨_, rfl⟩
  rw [← eg40] at e40
  have u40 : S40 8 = .inl (g.2 0, 120, .inl g40) := up_at e40 rfl
  refine lv_iinc (v := 2) (lv' := [(1, .int 2), (0, .ref (ad 0))]) hx hb dX12_clears_45 hl (k := 0) rfl (by decide) (by decide) rfl (fun ls hl => ?_)
  refine lv_goto (tgt := 29) hx hb dX12_clears_48 (by decide) ?_
  refine lv_iload_n hx hb dX12_clears_29 rfl (lv_at hl 0 rfl) ?_
  refine lv_bipush (v := 24) hx hb dX12_clears_30 (by decide) ?_
  refine lv_icmp_ge (tgt := 51) hx hb dX12_clears_32 (by decide) (fun k_41 => absurd k_41 (by decide)) (fun k_41 => ?_)
  refine lv_aload_n hx hb dX12_clears_35 rfl (lv_at hl 1 rfl) ?_
  have c_42 : S40 0 = .inr (12, [.int 0, .ref (ad 1), .ref (ad 2), .ref (ad 3), .ref (ad 4), .ref (ad 5), .int 0, .int 0, .int 0, .int 0, .int 0, .long 0, .int 0, .int 0, .int 0, .int (-1), .ref (ad 6), .ref (ad 7), .ref (ad 8), .ref (ad 9), .ref (ad 10), .ref (ad 11), .ref (ad 12), .ref (ad 13), .ref (ad 14), .ref (ad 15), .int 0, .int 0, .ref (ad 16), .int 0, .int 0, .int 0, .int 0, .int 0, .ref (ad 17), .ref (ad 18), .int 0, .ref (ad 19)]) := (up_ne e40 (by decide) c_39)
  refine xget E hQ 0 (by decide) c_42 rfl 18 (by decide) q1486 rfl dX12_clears_36 ?_
  refine lv_bipush (v := 96) hx hb dX12_clears_39 (by decide) ?_
  refine lv_iload_n hx hb dX12_clears_41 rfl (lv_at hl 0 rfl) ?_
  refine lv_iadd hx hb dX12_clears_42 ?_
  refine sb_at (P := fun z => W _ _ _ _ _ _ _ _ _ _ _ _ _ _ _ (F0 _ _ _ (.int z :: _))) (show (96 : Int32) + 2 = 98 by decide) ?_
  refine lv_iconst (v := 0) hx hb dX12_clears_43 (by decide) ?_
  refine xiast E hs hQ 8 (by decide) u40 (vp_in_lit 98 120 (by decide)) dX12_clears_44 (fun H locs S43 e43 hQ => ?_)
  obtain ⟨g43, eg43⟩ : ∃ f : Nat → Int32, f = upd g40 (98 : Int32).toNatClampNeg 0 := ⟨_, rfl⟩
  rw [← eg43] at e43
  have u43 : S43 8 = .inl (g.2 0, 120, .inl g43) := up_at e43 rfl
  refine lv_iinc (v := 3) (lv' := [(1, .int 3), (0, .ref (ad 0))]) hx hb dX12_clears_45 hl (k := 0) rfl (by decide) (by decide) rfl (fun ls hl => ?_)
  refine lv_goto (tgt := 29) hx hb dX12_clears_48 (by decide) ?_
  refine lv_iload_n hx hb dX12_clears_29 rfl (lv_at hl 0 rfl) ?_
  refine lv_bipush (v := 24) hx hb dX12_clears_30 (by decide) ?_
  refine lv_icmp_ge (tgt := 51) hx hb dX12_clears_32 (by decide) (fun k_44 => absurd k_44 (by decide)) (fun k_44 => ?_)
  refine lv_aload_n hx hb dX12_clears_35 rfl (lv_at hl 1 rfl) ?_
  have c_45 : S43 0 = .inr (12, [.int 0, .ref (ad 1), .ref (ad 2), .ref (ad 3), .ref (ad 4), .ref (ad 5), .int 0, .int 0, .int 0, .int 0, .int 0, .long 0, .int 0, .int 0, .int 0, .int (-1), .ref (ad 6), .ref (ad 7), .ref (ad 8), .ref (ad 9), .ref (ad 10), .ref (ad 11), .ref (ad 12), .ref (ad 13), .ref (ad 14), .ref (ad 15), .int 0, .int 0, .ref (ad 16), .int 0, .int 0, .int 0, .int 0, .int 0, .ref (ad 17), .ref (ad 18), .int 0, .ref (ad 19)]) := (up_ne e43 (by decide) c_42)
  refine xget E hQ 0 (by decide) c_45 rfl 18 (by decide) q1486 rfl dX12_clears_36 ?_
  refine lv_bipush (v := 96) hx hb dX12_clears_39 (by decide) ?_
  refine lv_iload_n hx hb dX12_clears_41 rfl (lv_at hl 0 rfl) ?_
  refine lv_iadd hx hb dX12_clears_42 ?_
  refine sb_at (P := fun z => W _ _ _ _ _ _ _ _ _ _ _ _ _ _ _ (F0 _ _ _ (.int z :: _))) (show (96 : Int32) + 3 = 99 by decide) ?_
  refine lv_iconst (v := 0) hx hb dX12_clears_43 (by decide) ?_
  refine xiast E hs hQ 8 (by decide) u43 (vp_in_lit 99 120 (by decide)) dX12_clears_44 (fun H locs S46 e46 hQ => ?_)
  obtain ⟨g46, eg46⟩ : ∃ f : Nat → Int32, f = upd g43 (99 : Int32).toNatClampNeg 0 := ⟨_, rfl⟩
  rw [← eg46] at e46
  have u46 : S46 8 = .inl (g.2 0, 120, .inl g46) := up_at e46 rfl
  refine lv_iinc (v := 4) (lv' := [(1, .int 4), (0, .ref (ad 0))]) hx hb dX12_clears_45 hl (k := 0) rfl (by decide) (by decide) rfl (fun ls hl => ?_)
  refine lv_goto (tgt := 29) hx hb dX12_clears_48 (by decide) ?_
  refine lv_iload_n hx hb dX12_clears_29 rfl (lv_at hl 0 rfl) ?_
  refine lv_bipush (v := 24) hx hb dX12_clears_30 (by decide) ?_
  refine lv_icmp_ge (tgt := 51) hx hb dX12_clears_32 (by decide) (fun k_47 => absurd k_47 (by decide)) (fun k_47 => ?_)
  refine lv_aload_n hx hb dX12_clears_35 rfl (lv_at hl 1 rfl) ?_
  have c_48 : S46 0 = .inr (12, [.int 0, .ref (ad 1), .ref (ad 2), .ref (ad 3), .ref (ad 4), .ref (ad 5), .int 0, .int 0, .int 0, .int 0, .int 0, .long 0, .int 0, .int 0, .int 0, .int (-1), .ref (ad 6), .ref (ad 7), .ref (ad 8), .ref (ad 9), .ref (ad 10), .ref (ad 11), .ref (ad 12), .ref (ad 13), .ref (ad 14), .ref (ad 15), .int 0, .int 0, .ref (ad 16), .int 0, .int 0, .int 0, .int 0, .int 0, .ref (ad 17), .ref (ad 18), .int 0, .ref (ad 19)]) := (up_ne e46 (by decide) c_45)
  refine xget E hQ 0 (by decide) c_48 rfl 18 (by decide) q1486 rfl dX12_clears_36 ?_
  refine lv_bipush (v := 96) hx hb dX12_clears_39 (by decide) ?_
  refine lv_iload_n hx hb dX12_clears_41 rfl (lv_at hl 0 rfl) ?_
  refine lv_iadd hx hb dX12_clears_42 ?_
  refine sb_at (P := fun z => W _ _ _ _ _ _ _ _ _ _ _ _ _ _ _ (F0 _ _ _ (.int z :: _))) (show (96 : Int32) + 4 = 100 by decide) ?_
  refine lv_iconst (v := 0) hx hb dX12_clears_43 (by decide) ?_
  refine xiast E hs hQ 8 (by decide) u46 (vp_in_lit 100 120 (by decide)) dX12_clears_44 (fun H locs S49 e49 hQ => ?_)
  obtain ⟨g49, eg49⟩ : ∃ f : Nat → Int32, f = upd g46 (100 : Int32).toNatClampNeg 0 := ⟨_, rfl⟩
  rw [← eg49] at e49
  have u49 : S49 8 = .inl (g.2 0, 120, .inl g49) := up_at e49 rfl
  refine lv_iinc (v := 5) (lv' := [(1, .int 5), (0, .ref (ad 0))]) hx hb dX12_clears_45 hl (k := 0) rfl (by decide) (by decide) rfl (fun ls hl => ?_)
  refine lv_goto (tgt := 29) hx hb dX12_clears_48 (by decide) ?_
  refine lv_iload_n hx hb dX12_clears_29 rfl (lv_at hl 0 rfl) ?_
  refine lv_bipush (v := 24) hx hb dX12_clears_30 (by decide) ?_
  refine lv_icmp_ge (tgt := 51) hx hb dX12_clears_32 (by decide) (fun k_50 => absurd k_50 (by decide)) (fun k_50 => ?_)
  refine lv_aload_n hx hb dX12_clears_35 rfl (lv_at hl 1 rfl) ?_
  have c_51 : S49 0 = .inr (12, [.int 0, .ref (ad 1), .ref (ad 2), .ref (ad 3), .ref (ad 4), .ref (ad 5), .int 0, .int 0, .int 0, .int 0, .int 0, .long 0, .int 0, .int 0, .int 0, .int (-1), .ref (ad 6), .ref (ad 7), .ref (ad 8), .ref (ad 9), .ref (ad 10), .ref (ad 11), .ref (ad 12), .ref (ad 13), .ref (ad 14), .ref (ad 15), .int 0, .int 0, .ref (ad 16), .int 0, .int 0, .int 0, .int 0, .int 0, .ref (ad 17), .ref (ad 18), .int 0, .ref (ad 19)]) := (up_ne e49 (by decide) c_48)
  refine xget E hQ 0 (by decide) c_51 rfl 18 (by decide) q1486 rfl dX12_clears_36 ?_
  refine lv_bipush (v := 96) hx hb dX12_clears_39 (by decide) ?_
  refine lv_iload_n hx hb dX12_clears_41 rfl (lv_at hl 0 rfl) ?_
  refine lv_iadd hx hb dX12_clears_42 ?_
  refine sb_at (P := fun z => W _ _ _ _ _ _ _ _ _ _ _ _ _ _ _ (F0 _ _ _ (.int z :: _))) (show (96 : Int32) + 5 = 101 by decide) ?_
  refine lv_iconst (v := 0) hx hb dX12_clears_43 (by decide) ?_
  refine xiast E hs hQ 8 (by decide) u49 (vp_in_lit 101 120 (by decide)) dX12_clears_44 (fun H locs S52 e52 hQ => ?_)
  obtain ⟨g52, eg52⟩ : ∃ f : Nat → Int32, f = upd g49 (101 : Int32).toNatClampNeg 0 := ⟨_, rfl⟩
  rw [← eg52] at e52
  have u52 : S52 8 = .inl (g.2 0, 120, .inl g52) := up_at e52 rfl
  refine lv_iinc (v := 6) (lv' := [(1, .int 6), (0, .ref (ad 0))]) hx hb dX12_clears_45 hl (k := 0) rfl (by decide) (by decide) rfl (fun ls hl => ?_)
  refine lv_goto (tgt := 29) hx hb dX12_clears_48 (by decide) ?_
  refine lv_iload_n hx hb dX12_clears_29 rfl (lv_at hl 0 rfl) ?_
  refine lv_bipush (v := 24) hx hb dX12_clears_30 (by decide) ?_
  refine lv_icmp_ge (tgt := 51) hx hb dX12_clears_32 (by decide) (fun k_53 => absurd k_53 (by decide)) (fun k_53 => ?_)
  refine lv_aload_n hx hb dX12_clears_35 rfl (lv_at hl 1 rfl) ?_
  have c_54 : S52 0 = .inr (12, [.int 0, .ref (ad 1), .ref (ad 2), .ref (ad 3), .ref (ad 4), .ref (ad 5), .int 0, .int 0, .int 0, .int 0, .int 0, .long 0, .int 0, .int 0, .int 0, .int (-1), .ref (ad 6), .ref (ad 7), .ref (ad 8), .ref (ad 9), .ref (ad 10), .ref (ad 11), .ref (ad 12), .ref (ad 13), .ref (ad 14), .ref (ad 15), .int 0, .int 0, .ref (ad 16), .int 0, .int 0, .int 0, .int 0, .int 0, .ref (ad 17), .ref (ad 18), .int 0, .ref (ad 19)]) := (up_ne e52 (by decide) c_51)
  refine xget E hQ 0 (by decide) c_54 rfl 18 (by decide) q1486 rfl dX12_clears_36 ?_
  refine lv_bipush (v := 96) hx hb dX12_clears_39 (by decide) ?_
  refine lv_iload_n hx hb dX12_clears_41 rfl (lv_at hl 0 rfl) ?_
  refine lv_iadd hx hb dX12_clears_42 ?_
  refine sb_at (P := fun z => W _ _ _ _ _ _ _ _ _ _ _ _ _ _ _ (F0 _ _ _ (.int z :: _))) (show (96 : Int32) + 6 = 102 by decide) ?_
  refine lv_iconst (v := 0) hx hb dX12_clears_43 (by decide) ?_
  refine xiast E hs hQ 8 (by decide) u52 (vp_in_lit 102 120 (by decide)) dX12_clears_44 (fun H locs S55 e55 hQ => ?_)
  obtain ⟨g55, eg55⟩ : ∃ f : Nat → Int32, f = upd g52 (102 : Int32).toNatClampNeg 0 := ⟨_, rfl⟩
  rw [← eg55] at e55
  have u55 : S55 8 = .inl (g.2 0, 120, .inl g55) := up_at e55 rfl
  refine lv_iinc (v := 7) (lv' := [(1, .int 7), (0, .ref (ad 0))]) hx hb dX12_clears_45 hl (k := 0) rfl (by decide) (by decide) rfl (fun ls hl => ?_)
  refine lv_goto (tgt := 29) hx hb dX12_clears_48 (by decide) ?_
  refine lv_iload_n hx hb dX12_clears_29 rfl (lv_at hl 0 rfl) ?_
  refine lv_bipush (v := 24) hx hb dX12_clears_30 (by decide) ?_
  refine lv_icmp_ge (tgt := 51) hx hb dX12_clears_32 (by decide) (fun k_56 => absurd k_56 (by decide)) (fun k_56 => ?_)
  refine lv_aload_n hx hb dX12_clears_35 rfl (lv_at hl 1 rfl) ?_
  have c_57 : S55 0 = .inr (12, [.int 0, .ref (ad 1), .ref (ad 2), .ref (ad 3), .ref (ad 4), .ref (ad 5), .int 0, .int 0, .int 0, .int 0, .int 0, .long 0, .int 0, .int 0, .int 0, .int (-1), .ref (ad 6), .ref (ad 7), .ref (ad 8), .ref (ad 9), .ref (ad 10), .ref (ad 11), .ref (ad 12), .ref (ad 13), .ref (ad 14), .ref (ad 15), .int 0, .int 0, .ref (ad 16), .int 0, .int 0, .int 0, .int 0, .int 0, .ref (ad 17), .ref (ad 18), .int 0, .ref (ad 19)]) := (up_ne e55 (by decide) c_54)
  refine xget E hQ 0 (by decide) c_57 rfl 18 (by decide) q1486 rfl dX12_clears_36 ?_
  refine lv_bipush (v := 96) hx hb dX12_clears_39 (by decide) ?_
  refine lv_iload_n hx hb dX12_clears_41 rfl (lv_at hl 0 rfl) ?_
  refine lv_iadd hx hb dX12_clears_42 ?_
  refine sb_at (P := fun z => W _ _ _ _ _ _ _ _ _ _ _ _ _ _ _ (F0 _ _ _ (.int z :: _))) (show (96 : Int32) + 7 = 103 by decide) ?_
  refine lv_iconst (v := 0) hx hb dX12_clears_43 (by decide) ?_
  refine xiast E hs hQ 8 (by decide) u55 (vp_in_lit 103 120 (by decide)) dX12_clears_44 (fun H locs S58 e58 hQ => ?_)
  obtain ⟨g58, eg58⟩ : ∃ f : Nat → Int32, f = upd g55 (103 : Int32).toNatClampNeg 0 := ⟨_, rfl⟩
  rw [← eg58] at e58
  have u58 : S58 8 = .inl (g.2 0, 120, .inl g58) := up_at e58 rfl
  refine lv_iinc (v := 8) (lv' := [(1, .int 8), (0, .ref (ad 0))]) hx hb dX12_clears_45 hl (k := 0) rfl (by decide) (by decide) rfl (fun ls hl => ?_)
  refine lv_goto (tgt := 29) hx hb dX12_clears_48 (by decide) ?_
  refine lv_iload_n hx hb dX12_clears_29 rfl (lv_at hl 0 rfl) ?_
  refine lv_bipush (v := 24) hx hb dX12_clears_30 (by decide) ?_
  refine lv_icmp_ge (tgt := 51) hx hb dX12_clears_32 (by decide) (fun k_59 => absurd k_59 (by decide)) (fun k_59 => ?_)
  refine lv_aload_n hx hb dX12_clears_35 rfl (lv_at hl 1 rfl) ?_
  have c_60 : S58 0 = .inr (12, [.int 0, .ref (ad 1), .ref (ad 2), .ref (ad 3), .ref (ad 4), .ref (ad 5), .int 0, .int 0, .int 0, .int 0, .int 0, .long 0, .int 0, .int 0, .int 0, .int (-1), .ref (ad 6), .ref (ad 7), .ref (ad 8), .ref (ad 9), .ref (ad 10), .ref (ad 11), .ref (ad 12), .ref (ad 13), .ref (ad 14), .ref (ad 15), .int 0, .int 0, .ref (ad 16), .int 0, .int 0, .int 0, .int 0, .int 0, .ref (ad 17), .ref (ad 18), .int 0, .ref (ad 19)]) := (up_ne e58 (by decide) c_57)
  refine xget E hQ 0 (by decide) c_60 rfl 18 (by decide) q1486 rfl dX12_clears_36 ?_
  refine lv_bipush (v := 96) hx hb dX12_clears_39 (by decide) ?_
  refine lv_iload_n hx hb dX12_clears_41 rfl (lv_at hl 0 rfl) ?_
  refine lv_iadd hx hb dX12_clears_42 ?_
  refine sb_at (P := fun z => W _ _ _ _ _ _ _ _ _ _ _ _ _ _ _ (F0 _ _ _ (.int z :: _))) (show (96 : Int32) + 8 = 104 by decide) ?_
  refine lv_iconst (v := 0) hx hb dX12_clears_43 (by decide) ?_
  refine xiast E hs hQ 8 (by decide) u58 (vp_in_lit 104 120 (by decide)) dX12_clears_44 (fun H locs S61 e61 hQ => ?_)
  obtain ⟨g61, eg61⟩ : ∃ f : Nat → Int32, f = upd g58 (104 : Int32).toNatClampNeg 0 := ⟨_, rfl⟩
  rw [← eg61] at e61
  have u61 : S61 8 = .inl (g.2 0, 120, .inl g61) := up_at e61 rfl
  refine lv_iinc (v := 9) (lv' := [(1, .int 9), (0, .ref (ad 0))]) hx hb dX12_clears_45 hl (k := 0) rfl (by decide) (by decide) rfl (fun ls hl => ?_)
  refine lv_goto (tgt := 29) hx hb dX12_clears_48 (by decide) ?_
  refine lv_iload_n hx hb dX12_clears_29 rfl (lv_at hl 0 rfl) ?_
  refine lv_bipush (v := 24) hx hb dX12_clears_30 (by decide) ?_
  refine lv_icmp_ge (tgt := 51) hx hb dX12_clears_32 (by decide) (fun k_62 => absurd k_62 (by decide)) (fun k_62 => ?_)
  refine lv_aload_n hx hb dX12_clears_35 rfl (lv_at hl 1 rfl) ?_
  have c_63 : S61 0 = .inr (12, [.int 0, .ref (ad 1), .ref (ad 2), .ref (ad 3), .ref (ad 4), .ref (ad 5), .int 0, .int 0, .int 0, .int 0, .int 0, .long 0, .int 0, .int 0, .int 0, .int (-1), .ref (ad 6), .ref (ad 7), .ref (ad 8), .ref (ad 9), .ref (ad 10), .ref (ad 11), .ref (ad 12), .ref (ad 13), .ref (ad 14), .ref (ad 15), .int 0, .int 0, .ref (ad 16), .int 0, .int 0, .int 0, .int 0, .int 0, .ref (ad 17), .ref (ad 18), .int 0, .ref (ad 19)]) := (up_ne e61 (by decide) c_60)
  refine xget E hQ 0 (by decide) c_63 rfl 18 (by decide) q1486 rfl dX12_clears_36 ?_
  refine lv_bipush (v := 96) hx hb dX12_clears_39 (by decide) ?_
  refine lv_iload_n hx hb dX12_clears_41 rfl (lv_at hl 0 rfl) ?_
  refine lv_iadd hx hb dX12_clears_42 ?_
  refine sb_at (P := fun z => W _ _ _ _ _ _ _ _ _ _ _ _ _ _ _ (F0 _ _ _ (.int z :: _))) (show (96 : Int32) + 9 = 105 by decide) ?_
  refine lv_iconst (v := 0) hx hb dX12_clears_43 (by decide) ?_
  refine xiast E hs hQ 8 (by decide) u61 (vp_in_lit 105 120 (by decide)) dX12_clears_44 (fun H locs S64 e64 hQ => ?_)
  obtain ⟨g64, eg64⟩ : ∃ f : Nat → Int32, f = upd g61 (105 : Int32).toNatClampNeg 0 := ⟨_, rfl⟩
  rw [← eg64] at e64
  have u64 : S64 8 = .inl (g.2 0, 120, .inl g64) := up_at e64 rfl
  refine lv_iinc (v := 10) (lv' := [(1, .int 10), (0, .ref (ad 0))]) hx hb dX12_clears_45 hl (k := 0) rfl (by decide) (by decide) rfl (fun ls hl => ?_)
  refine lv_goto (tgt := 29) hx hb dX12_clears_48 (by decide) ?_
  refine lv_iload_n hx hb dX12_clears_29 rfl (lv_at hl 0 rfl) ?_
  refine lv_bipush (v := 24) hx hb dX12_clears_30 (by decide) ?_
  refine lv_icmp_ge (tgt := 51) hx hb dX12_clears_32 (by decide) (fun k_65 => absurd k_65 (by decide)) (fun k_65 => ?_)
  refine lv_aload_n hx hb dX12_clears_35 rfl (lv_at hl 1 rfl) ?_
  have c_66 : S64 0 = .inr (12, [.int 0, .ref (ad 1), .ref (ad 2), .ref (ad 3), .ref (ad 4), .ref (ad 5), .int 0, .int 0, .int 0, .int 0, .int 0, .long 0, .int 0, .int 0, .int 0, .int (-1), .ref (ad 6), .ref (ad 7), .ref (ad 8), .ref (ad 9), .ref (ad 10), .ref (ad 11), .ref (ad 12), .ref (ad 13), .ref (ad 14), .ref (ad 15), .int 0, .int 0, .ref (ad 16), .int 0, .int 0, .int 0, .int 0, .int 0, .ref (ad 17), .ref (ad 18), .int 0, .ref (ad 19)]) := (up_ne e64 (by decide) c_63)
  refine xget E hQ 0 (by decide) c_66 rfl 18 (by decide) q1486 rfl dX12_clears_36 ?_
  refine lv_bipush (v := 96) hx hb dX12_clears_39 (by decide) ?_
  refine lv_iload_n hx hb dX12_clears_41 rfl (lv_at hl 0 rfl) ?_
  refine lv_iadd hx hb dX12_clears_42 ?_
  refine sb_at (P := fun z => W _ _ _ _ _ _ _ _ _ _ _ _ _ _ _ (F0 _ _ _ (.int z :: _))) (show (96 : Int32) + 10 = 106 by decide) ?_
  refine lv_iconst (v := 0) hx hb dX12_clears_43 (by decide) ?_
  refine xiast E hs hQ 8 (by decide) u64 (vp_in_lit 106 120 (by decide)) dX12_clears_44 (fun H locs S67 e67 hQ => ?_)
  obtain ⟨g67, eg67⟩ : ∃ f : Nat → Int32, f = upd g64 (106 : Int32).toNatClampNeg 0 := ⟨_, rfl⟩
  rw [← eg67] at e67
  have u67 : S67 8 = .inl (g.2 0, 120, .inl g67) := up_at e67 rfl
  refine lv_iinc (v := 11) (lv' := [(1, .int 11), (0, .ref (ad 0))]) hx hb dX12_clears_45 hl (k := 0) rfl (by decide) (by decide) rfl (fun ls hl => ?_)
  refine lv_goto (tgt := 29) hx hb dX12_clears_48 (by decide) ?_
  refine lv_iload_n hx hb dX12_clears_29 rfl (lv_at hl 0 rfl) ?_
  refine lv_bipush (v := 24) hx hb dX12_clears_30 (by decide) ?_
  refine lv_icmp_ge (tgt := 51) hx hb dX12_clears_32 (by decide) (fun k_68 => absurd k_68 (by decide)) (fun k_68 => ?_)
  refine lv_aload_n hx hb dX12_clears_35 rfl (lv_at hl 1 rfl) ?_
  have c_69 : S67 0 = .inr (12, [.int 0, .ref (ad 1), .ref (ad 2), .ref (ad 3), .ref (ad 4), .ref (ad 5), .int 0, .int 0, .int 0, .int 0, .int 0, .long 0, .int 0, .int 0, .int 0, .int (-1), .ref (ad 6), .ref (ad 7), .ref (ad 8), .ref (ad 9), .ref (ad 10), .ref (ad 11), .ref (ad 12), .ref (ad 13), .ref (ad 14), .ref (ad 15), .int 0, .int 0, .ref (ad 16), .int 0, .int 0, .int 0, .int 0, .int 0, .ref (ad 17), .ref (ad 18), .int 0, .ref (ad 19)]) := (up_ne e67 (by decide) c_66)
  refine xget E hQ 0 (by decide) c_69 rfl 18 (by decide) q1486 rfl dX12_clears_36 ?_
  refine lv_bipush (v := 96) hx hb dX12_clears_39 (by decide) ?_
  refine lv_iload_n hx hb dX12_clears_41 rfl (lv_at hl 0 rfl) ?_
  refine lv_iadd hx hb dX12_clears_42 ?_
  refine sb_at (P := fun z => W _ _ _ _ _ _ _ _ _ _ _ _ _ _ _ (F0 _ _ _ (.int z :: _))) (show (96 : Int32) + 11 = 107 by decide) ?_
  refine lv_iconst (v := 0) hx hb dX12_clears_43 (by decide) ?_
  refine xiast E hs hQ 8 (by decide) u67 (vp_in_lit 107 120 (by decide)) dX12_clears_44 (fun H locs S70 e70 hQ => ?_)
  obtain ⟨g70, eg70⟩ : ∃ f : Nat → Int32, f = upd g67 (107 : Int32).toNatClampNeg 0 := ⟨_, rfl⟩
  rw [← eg70] at e70
  have u70 : S70 8 = .inl (g.2 0, 120, .inl g70) := up_at e70 rfl
  refine lv_iinc (v := 12) (lv' := [(1, .int 12), (0, .ref (ad 0))]) hx hb dX12_clears_45 hl (k := 0) rfl (by decide) (by decide) rfl (fun ls hl => ?_)
  refine lv_goto (tgt := 29) hx hb dX12_clears_48 (by decide) ?_
  refine lv_iload_n hx hb dX12_clears_29 rfl (lv_at hl 0 rfl) ?_
  refine lv_bipush (v := 24) hx hb dX12_clears_30 (by decide) ?_
  refine lv_icmp_ge (tgt := 51) hx hb dX12_clears_32 (by decide) (fun k_71 => absurd k_71 (by decide)) (fun k_71 => ?_)
  refine lv_aload_n hx hb dX12_clears_35 rfl (lv_at hl 1 rfl) ?_
  have c_72 : S70 0 = .inr (12, [.int 0, .ref (ad 1), .ref (ad 2), .ref (ad 3), .ref (ad 4), .ref (ad 5), .int 0, .int 0, .int 0, .int 0, .int 0, .long 0, .int 0, .int 0, .int 0, .int (-1), .ref (ad 6), .ref (ad 7), .ref (ad 8), .ref (ad 9), .ref (ad 10), .ref (ad 11), .ref (ad 12), .ref (ad 13), .ref (ad 14), .ref (ad 15), .int 0, .int 0, .ref (ad 16), .int 0, .int 0, .int 0, .int 0, .int 0, .ref (ad 17), .ref (ad 18), .int 0, .ref (ad 19)]) := (up_ne e70 (by decide) c_69)
  refine xget E hQ 0 (by decide) c_72 rfl 18 (by decide) q1486 rfl dX12_clears_36 ?_
  refine lv_bipush (v := 96) hx hb dX12_clears_39 (by decide) ?_
  refine lv_iload_n hx hb dX12_clears_41 rfl (lv_at hl 0 rfl) ?_
  refine lv_iadd hx hb dX12_clears_42 ?_
  refine sb_at (P := fun z => W _ _ _ _ _ _ _ _ _ _ _ _ _ _ _ (F0 _ _ _ (.int z :: _))) (show (96 : Int32) + 12 = 108 by decide) ?_
  refine lv_iconst (v := 0) hx hb dX12_clears_43 (by decide) ?_
  refine xiast E hs hQ 8 (by decide) u70 (vp_in_lit 108 120 (by decide)) dX12_clears_44 (fun H locs S73 e73 hQ => ?_)
  obtain ⟨g73, eg73⟩ : ∃ f : Nat → Int32, f = upd g70 (108 : Int32).toNatClampNeg 0 := ⟨_, rfl⟩
  rw [← eg73] at e73
  have u73 : S73 8 = .inl (g.2 0, 120, .inl g73) := up_at e73 rfl
  refine lv_iinc (v := 13) (lv' := [(1, .int 13), (0, .ref (ad 0))]) hx hb dX12_clears_45 hl (k := 0) rfl (by decide) (by decide) rfl (fun ls hl => ?_)
  refine lv_goto (tgt := 29) hx hb dX12_clears_48 (by decide) ?_
  refine lv_iload_n hx hb dX12_clears_29 rfl (lv_at hl 0 rfl) ?_
  refine lv_bipush (v := 24) hx hb dX12_clears_30 (by decide) ?_
  refine lv_icmp_ge (tgt := 51) hx hb dX12_clears_32 (by decide) (fun k_74 => absurd k_74 (by decide)) (fun k_74 => ?_)
  refine lv_aload_n hx hb dX12_clears_35 rfl (lv_at hl 1 rfl) ?_
  have c_75 : S73 0 = .inr (12, [.int 0, .ref (ad 1), .ref (ad 2), .ref (ad 3), .ref (ad 4), .ref (ad 5), .int 0, .int 0, .int 0, .int 0, .int 0, .long 0, .int 0, .int 0, .int 0, .int (-1), .ref (ad 6), .ref (ad 7), .ref (ad 8), .ref (ad 9), .ref (ad 10), .ref (ad 11), .ref (ad 12), .ref (ad 13), .ref (ad 14), .ref (ad 15), .int 0, .int 0, .ref (ad 16), .int 0, .int 0, .int 0, .int 0, .int 0, .ref (ad 17), .ref (ad 18), .int 0, .ref (ad 19)]) := (up_ne e73 (by decide) c_72)
  refine xget E hQ 0 (by decide) c_75 rfl 18 (by decide) q1486 rfl dX12_clears_36 ?_
  refine lv_bipush (v := 96) hx hb dX12_clears_39 (by decide) ?_
  refine lv_iload_n hx hb dX12_clears_41 rfl (lv_at hl 0 rfl) ?_
  refine lv_iadd hx hb dX12_clears_42 ?_
  refine sb_at (P := fun z => W _ _ _ _ _ _ _ _ _ _ _ _ _ _ _ (F0 _ _ _ (.int z :: _))) (show (96 : Int32) + 13 = 109 by decide) ?_
  refine lv_iconst (v := 0) hx hb dX12_clears_43 (by decide) ?_
  refine xiast E hs hQ 8 (by decide) u73 (vp_in_lit 109 120 (by decide)) dX12_clears_44 (fun H locs S76 e76 hQ => ?_)
  obtain ⟨g76, eg76⟩ : ∃ f : Nat → Int32, f = upd g73 (109 : Int32).toNatClampNeg 0 := ⟨_, rfl⟩
  rw [← eg76] at e76
  have u76 : S76 8 = .inl (g.2 0, 120, .inl g76) := up_at e76 rfl
  refine lv_iinc (v := 14) (lv' := [(1, .int 14), (0, .ref (ad 0))]) hx hb dX12_clears_45 hl (k := 0) rfl (by decide) (by decide) rfl (fun ls hl => ?_)
  refine lv_goto (tgt := 29) hx hb dX12_clears_48 (by decide) ?_
  refine lv_iload_n hx hb dX12_clears_29 rfl (lv_at hl 0 rfl) ?_
  refine lv_bipush (v := 24) hx hb dX12_clears_30 (by decide) ?_
  refine lv_icmp_ge (tgt := 51) hx hb dX12_clears_32 (by decide) (fun k_77 => absurd k_77 (by decide)) (fun k_77 => ?_)
  refine lv_aload_n hx hb dX12_clears_35 rfl (lv_at hl 1 rfl) ?_
  have c_78 : S76 0 = .inr (12, [.int 0, .ref (ad 1), .ref (ad 2), .ref (ad 3), .ref (ad 4), .ref (ad 5), .int 0, .int 0, .int 0, .int 0, .int 0, .long 0, .int 0, .int 0, .int 0, .int (-1), .ref (ad 6), .ref (ad 7), .ref (ad 8), .ref (ad 9), .ref (ad 10), .ref (ad 11), .ref (ad 12), .ref (ad 13), .ref (ad 14), .ref (ad 15), .int 0, .int 0, .ref (ad 16), .int 0, .int 0, .int 0, .int 0, .int 0, .ref (ad 17), .ref (ad 18), .int 0, .ref (ad 19)]) := (up_ne e76 (by decide) c_75)
  refine xget E hQ 0 (by decide) c_78 rfl 18 (by decide) q1486 rfl dX12_clears_36 ?_
  refine lv_bipush (v := 96) hx hb dX12_clears_39 (by decide) ?_
  refine lv_iload_n hx hb dX12_clears_41 rfl (lv_at hl 0 rfl) ?_
  refine lv_iadd hx hb dX12_clears_42 ?_
  refine sb_at (P := fun z => W _ _ _ _ _ _ _ _ _ _ _ _ _ _ _ (F0 _ _ _ (.int z :: _))) (show (96 : Int32) + 14 = 110 by decide) ?_
  refine lv_iconst (v := 0) hx hb dX12_clears_43 (by decide) ?_
  refine xiast E hs hQ 8 (by decide) u76 (vp_in_lit 110 120 (by decide)) dX12_clears_44 (fun H locs S79 e79 hQ => ?_)
  obtain ⟨g79, eg79⟩ : ∃ f : Nat → Int32, f = upd g76 (110 : Int32).toNatClampNeg 0 := ⟨_, rfl⟩
  rw [← eg79] at e79
  have u79 : S79 8 = .inl (g.2 0, 120, .inl g79) := up_at e79 rfl
  refine lv_iinc (v := 15) (lv' := [(1, .int 15), (0, .ref (ad 0))]) hx hb dX12_clears_45 hl (k := 0) rfl (by decide) (by decide) rfl (fun ls hl => ?_)
  refine lv_goto (tgt := 29) hx hb dX12_clears_48 (by decide) ?_
  refine lv_iload_n hx hb dX12_clears_29 rfl (lv_at hl 0 rfl) ?_
  refine lv_bipush (v := 24) hx hb dX12_clears_30 (by decide) ?_
  refine lv_icmp_ge (tgt := 51) hx hb dX12_clears_32 (by decide) (fun k_80 => absurd k_80 (by decide)) (fun k_80 => ?_)
  refine lv_aload_n hx hb dX12_clears_35 rfl (lv_at hl 1 rfl) ?_
  have c_81 : S79 0 = .inr (12, [.int 0, .ref (ad 1), .ref (ad 2), .ref (ad 3), .ref (ad 4), .ref (ad 5), .int 0, .int 0, .int 0, .int 0, .int 0, .long 0, .int 0, .int 0, .int 0, .int (-1), .ref (ad 6), .ref (ad 7), .ref (ad 8), .ref (ad 9), .ref (ad 10), .ref (ad 11), .ref (ad 12), .ref (ad 13), .ref (ad 14), .ref (ad 15), .int 0, .int 0, .ref (ad 16), .int 0, .int 0, .int 0, .int 0, .int 0, .ref (ad 17), .ref (ad 18), .int 0, .ref (ad 19)]) := (up_ne e79 (by decide) c_78)
  refine xget E hQ 0 (by decide) c_81 rfl 18 (by decide) q1486 rfl dX12_clears_36 ?_
  refine lv_bipush (v := 96) hx hb dX12_clears_39 (by decide) ?_
  refine lv_iload_n hx hb dX12_clears_41 rfl (lv_at hl 0 rfl) ?_
  refine lv_iadd hx hb dX12_clears_42 ?_
  refine sb_at (P := fun z => W _ _ _ _ _ _ _ _ _ _ _ _ _ _ _ (F0 _ _ _ (.int z :: _))) (show (96 : Int32) + 15 = 111 by decide) ?_
  refine lv_iconst (v := 0) hx hb dX12_clears_43 (by decide) ?_
  refine xiast E hs hQ 8 (by decide) u79 (vp_in_lit 111 120 (by decide)) dX12_clears_44 (fun H locs S82 e82 hQ => ?_)
  obtain ⟨g82, eg82⟩ : ∃ f : Nat → Int32, f = upd g79 (111 : Int32).toNatClampNeg 0 := ⟨_, rfl⟩
  rw [← eg82] at e82
  have u82 : S82 8 = .inl (g.2 0, 120, .inl g82) := up_at e82 rfl
  refine lv_iinc (v := 16) (lv' := [(1, .int 16), (0, .ref (ad 0))]) hx hb dX12_clears_45 hl (k := 0) rfl (by decide) (by decide) rfl (fun ls hl => ?_)
  refine lv_goto (tgt := 29) hx hb dX12_clears_48 (by decide) ?_
  refine lv_iload_n hx hb dX12_clears_29 rfl (lv_at hl 0 rfl) ?_
  refine lv_bipush (v := 24) hx hb dX12_clears_30 (by decide) ?_
  refine lv_icmp_ge (tgt := 51) hx hb dX12_clears_32 (by decide) (fun k_83 => absurd k_83 (by decide)) (fun k_83 => ?_)
  refine lv_aload_n hx hb dX12_clears_35 rfl (lv_at hl 1 rfl) ?_
  have c_84 : S82 0 = .inr (12, [.int 0, .ref (ad 1), .ref (ad 2), .ref (ad 3), .ref (ad 4), .ref (ad 5), .int 0, .int 0, .int 0, .int 0, .int 0, .long 0, .int 0, .int 0, .int 0, .int (-1), .ref (ad 6), .ref (ad 7), .ref (ad 8), .ref (ad 9), .ref (ad 10), .ref (ad 11), .ref (ad 12), .ref (ad 13), .ref (ad 14), .ref (ad 15), .int 0, .int 0, .ref (ad 16), .int 0, .int 0, .int 0, .int 0, .int 0, .ref (ad 17), .ref (ad 18), .int 0, .ref (ad 19)]) := (up_ne e82 (by decide) c_81)
  refine xget E hQ 0 (by decide) c_84 rfl 18 (by decide) q1486 rfl dX12_clears_36 ?_
  refine lv_bipush (v := 96) hx hb dX12_clears_39 (by decide) ?_
  refine lv_iload_n hx hb dX12_clears_41 rfl (lv_at hl 0 rfl) ?_
  refine lv_iadd hx hb dX12_clears_42 ?_
  refine sb_at (P := fun z => W _ _ _ _ _ _ _ _ _ _ _ _ _ _ _ (F0 _ _ _ (.int z :: _))) (show (96 : Int32) + 16 = 112 by decide) ?_
  refine lv_iconst (v := 0) hx hb dX12_clears_43 (by decide) ?_
  refine xiast E hs hQ 8 (by decide) u82 (vp_in_lit 112 120 (by decide)) dX12_clears_44 (fun H locs S85 e85 hQ => ?_)
  obtain ⟨g85, eg85⟩ : ∃ f : Nat → Int32, f = upd g82 (112 : Int32).toNatClampNeg 0 := ⟨_, rfl⟩
  rw [← eg85] at e85
  have u85 : S85 8 = .inl (g.2 0, 120, .inl g85) := up_at e85 rfl
  refine lv_iinc (v := 17) (lv' := [(1, .int 17), (0, .ref (ad 0))]) hx hb dX12_clears_45 hl (k := 0) rfl (by decide) (by decide) rfl (fun ls hl => ?_)
  refine lv_goto (tgt := 29) hx hb dX12_clears_48 (by decide) ?_
  refine lv_iload_n hx hb dX12_clears_29 rfl (lv_at hl 0 rfl) ?_
  refine lv_bipush (v := 24) hx hb dX12_clears_30 (by decide) ?_
  refine lv_icmp_ge (tgt := 51) hx hb dX12_clears_32 (by decide) (fun k_86 => absurd k_86 (by decide)) (fun k_86 => ?_)
  refine lv_aload_n hx hb dX12_clears_35 rfl (lv_at hl 1 rfl) ?_
  have c_87 : S85 0 = .inr (12, [.int 0, .ref (ad 1), .ref (ad 2), .ref (ad 3), .ref (ad 4), .ref (ad 5), .int 0, .int 0, .int 0, .int 0, .int 0, .long 0, .int 0, .int 0, .int 0, .int (-1), .ref (ad 6), .ref (ad 7), .ref (ad 8), .ref (ad 9), .ref (ad 10), .ref (ad 11), .ref (ad 12), .ref (ad 13), .ref (ad 14), .ref (ad 15), .int 0, .int 0, .ref (ad 16), .int 0, .int 0, .int 0, .int 0, .int 0, .ref (ad 17), .ref (ad 18), .int 0, .ref (ad 19)]) := (up_ne e85 (by decide) c_84)
  refine xget E hQ 0 (by decide) c_87 rfl 18 (by decide) q1486 rfl dX12_clears_36 ?_
  refine lv_bipush (v := 96) hx hb dX12_clears_39 (by decide) ?_
  refine lv_iload_n hx hb dX12_clears_41 rfl (lv_at hl 0 rfl) ?_
  refine lv_iadd hx hb dX12_clears_42 ?_
  refine sb_at (P := fun z => W _ _ _ _ _ _ _ _ _ _ _ _ _ _ _ (F0 _ _ _ (.int z :: _))) (show (96 : Int32) + 17 = 113 by decide) ?_
  refine lv_iconst (v := 0) hx hb dX12_clears_43 (by decide) ?_
  refine xiast E hs hQ 8 (by decide) u85 (vp_in_lit 113 120 (by decide)) dX12_clears_44 (fun H locs S88 e88 hQ => ?_)
  obtain ⟨g88, eg88⟩ : ∃ f : Nat → Int32, f = upd g85 (113 : Int32).toNatClampNeg 0 := ⟨_, rfl⟩
  rw [← eg88] at e88
  have u88 : S88 8 = .inl (g.2 0, 120, .inl g88) := up_at e88 rfl
  refine lv_iinc (v := 18) (lv' := [(1, .int 18), (0, .ref (ad 0))]) hx hb dX12_clears_45 hl (k := 0) rfl (by decide) (by decide) rfl (fun ls hl => ?_)
  refine lv_goto (tgt := 29) hx hb dX12_clears_48 (by decide) ?_
  refine lv_iload_n hx hb dX12_clears_29 rfl (lv_at hl 0 rfl) ?_
  refine lv_bipush (v := 24) hx hb dX12_clears_30 (by decide) ?_
  refine lv_icmp_ge (tgt := 51) hx hb dX12_clears_32 (by decide) (fun k_89 => absurd k_89 (by decide)) (fun k_89 => ?_)
  refine lv_aload_n hx hb dX12_clears_35 rfl (lv_at hl 1 rfl) ?_
  have c_90 : S88 0 = .inr (12, [.int 0, .ref (ad 1), .ref (ad 2), .ref (ad 3), .ref (ad 4), .ref (ad 5), .int 0, .int 0, .int 0, .int 0, .int 0, .long 0, .int 0, .int 0, .int 0, .int (-1), .ref (ad 6), .ref (ad 7), .ref (ad 8), .ref (ad 9), .ref (ad 10), .ref (ad 11), .ref (ad 12), .ref (ad 13), .ref (ad 14), .ref (ad 15), .int 0, .int 0, .ref (ad 16), .int 0, .int 0, .int 0, .int 0, .int 0, .ref (ad 17), .ref (ad 18), .int 0, .ref (ad 19)]) := (up_ne e88 (by decide) c_87)
  refine xget E hQ 0 (by decide) c_90 rfl 18 (by decide) q1486 rfl dX12_clears_36 ?_
  refine lv_bipush (v := 96) hx hb dX12_clears_39 (by decide) ?_
  refine lv_iload_n hx hb dX12_clears_41 rfl (lv_at hl 0 rfl) ?_
  refine lv_iadd hx hb dX12_clears_42 ?_
  refine sb_at (P := fun z => W _ _ _ _ _ _ _ _ _ _ _ _ _ _ _ (F0 _ _ _ (.int z :: _))) (show (96 : Int32) + 18 = 114 by decide) ?_
  refine lv_iconst (v := 0) hx hb dX12_clears_43 (by decide) ?_
  refine xiast E hs hQ 8 (by decide) u88 (vp_in_lit 114 120 (by decide)) dX12_clears_44 (fun H locs S91 e91 hQ => ?_)
  obtain ⟨g91, eg91⟩ : ∃ f : Nat → Int32, f = upd g88 (114 : Int32).toNatClampNeg 0 := ⟨_, rfl⟩
  rw [← eg91] at e91
  have u91 : S91 8 = .inl (g.2 0, 120, .inl g91) := up_at e91 rfl
  refine lv_iinc (v := 19) (lv' := [(1, .int 19), (0, .ref (ad 0))]) hx hb dX12_clears_45 hl (k := 0) rfl (by decide) (by decide) rfl (fun ls hl => ?_)
  refine lv_goto (tgt := 29) hx hb dX12_clears_48 (by decide) ?_
  refine lv_iload_n hx hb dX12_clears_29 rfl (lv_at hl 0 rfl) ?_
  refine lv_bipush (v := 24) hx hb dX12_clears_30 (by decide) ?_
  refine lv_icmp_ge (tgt := 51) hx hb dX12_clears_32 (by decide) (fun k_92 => absurd k_92 (by decide)) (fun k_92 => ?_)
  refine lv_aload_n hx hb dX12_clears_35 rfl (lv_at hl 1 rfl) ?_
  have c_93 : S91 0 = .inr (12, [.int 0, .ref (ad 1), .ref (ad 2), .ref (ad 3), .ref (ad 4), .ref (ad 5), .int 0, .int 0, .int 0, .int 0, .int 0, .long 0, .int 0, .int 0, .int 0, .int (-1), .ref (ad 6), .ref (ad 7), .ref (ad 8), .ref (ad 9), .ref (ad 10), .ref (ad 11), .ref (ad 12), .ref (ad 13), .ref (ad 14), .ref (ad 15), .int 0, .int 0, .ref (ad 16), .int 0, .int 0, .int 0, .int 0, .int 0, .ref (ad 17), .ref (ad 18), .int 0, .ref (ad 19)]) := (up_ne e91 (by decide) c_90)
  refine xget E hQ 0 (by decide) c_93 rfl 18 (by decide) q1486 rfl dX12_clears_36 ?_
  refine lv_bipush (v := 96) hx hb dX12_clears_39 (by decide) ?_
  refine lv_iload_n hx hb dX12_clears_41 rfl (lv_at hl 0 rfl) ?_
  refine lv_iadd hx hb dX12_clears_42 ?_
  refine sb_at (P := fun z => W _ _ _ _ _ _ _ _ _ _ _ _ _ _ _ (F0 _ _ _ (.int z :: _))) (show (96 : Int32) + 19 = 115 by decide) ?_
  refine lv_iconst (v := 0) hx hb dX12_clears_43 (by decide) ?_
  refine xiast E hs hQ 8 (by decide) u91 (vp_in_lit 115 120 (by decide)) dX12_clears_44 (fun H locs S94 e94 hQ => ?_)
  obtain ⟨g94, eg94⟩ : ∃ f : Nat → Int32, f = upd g91 (115 : Int32).toNatClampNeg 0 := ⟨_, rfl⟩
  rw [← eg94] at e94
  have u94 : S94 8 = .inl (g.2 0, 120, .inl g94) := up_at e94 rfl
  refine lv_iinc (v := 20) (lv' := [(1, .int 20), (0, .ref (ad 0))]) hx hb dX12_clears_45 hl (k := 0) rfl (by decide) (by decide) rfl (fun ls hl => ?_)
  refine lv_goto (tgt := 29) hx hb dX12_clears_48 (by decide) ?_
  refine lv_iload_n hx hb dX12_clears_29 rfl (lv_at hl 0 rfl) ?_
  refine lv_bipush (v := 24) hx hb dX12_clears_30 (by decide) ?_
  refine lv_icmp_ge (tgt := 51) hx hb dX12_clears_32 (by decide) (fun k_95 => absurd k_95 (by decide)) (fun k_95 => ?_)
  refine lv_aload_n hx hb dX12_clears_35 rfl (lv_at hl 1 rfl) ?_
  have c_96 : S94 0 = .inr (12, [.int 0, .ref (ad 1), .ref (ad 2), .ref (ad 3), .ref (ad 4), .ref (ad 5), .int 0, .int 0, .int 0, .int 0, .int 0, .long 0, .int 0, .int 0, .int 0, .int (-1), .ref (ad 6), .ref (ad 7), .ref (ad 8), .ref (ad 9), .ref (ad 10), .ref (ad 11), .ref (ad 12), .ref (ad 13), .ref (ad 14), .ref (ad 15), .int 0, .int 0, .ref (ad 16), .int 0, .int 0, .int 0, .int 0, .int 0, .ref (ad 17), .ref (ad 18), .int 0, .ref (ad 19)]) := (up_ne e94 (by decide) c_93)
  refine xget E hQ 0 (by decide) c_96 rfl 18 (by decide) q1486 rfl dX12_clears_36 ?_
  refine lv_bipush (v := 96) hx hb dX12_clears_39 (by decide) ?_
  refine lv_iload_n hx hb dX12_clears_41 rfl (lv_at hl 0 rfl) ?_
  refine lv_iadd hx hb dX12_clears_42 ?_
  refine sb_at (P := fun z => W _ _ _ _ _ _ _ _ _ _ _ _ _ _ _ (F0 _ _ _ (.int z :: _))) (show (96 : Int32) + 20 = 116 by decide) ?_
  refine lv_iconst (v := 0) hx hb dX12_clears_43 (by decide) ?_
  refine xiast E hs hQ 8 (by decide) u94 (vp_in_lit 116 120 (by decide)) dX12_clears_44 (fun H locs S97 e97 hQ => ?_)
  obtain ⟨g97, eg97⟩ : ∃ f : Nat → Int32, f = upd g94 (116 : Int32).toNatClampNeg 0 := ⟨_, rfl⟩
  rw [← eg97] at e97
  have u97 : S97 8 = .inl (g.2 0, 120, .inl g97) := up_at e97 rfl
  refine lv_iinc (v := 21) (lv' := [(1, .int 21), (0, .ref (ad 0))]) hx hb dX12_clears_45 hl (k := 0) rfl (by decide) (by decide) rfl (fun ls hl => ?_)
  refine lv_goto (tgt := 29) hx hb dX12_clears_48 (by decide) ?_
  refine lv_iload_n hx hb dX12_clears_29 rfl (lv_at hl 0 rfl) ?_
  refine lv_bipush (v := 24) hx hb dX12_clears_30 (by decide) ?_
  refine lv_icmp_ge (tgt := 51) hx hb dX12_clears_32 (by decide) (fun k_98 => absurd k_98 (by decide)) (fun k_98 => ?_)
  refine lv_aload_n hx hb dX12_clears_35 rfl (lv_at hl 1 rfl) ?_
  have c_99 : S97 0 = .inr (12, [.int 0, .ref (ad 1), .ref (ad 2), .ref (ad 3), .ref (ad 4), .ref (ad 5), .int 0, .int 0, .int 0, .int 0, .int 0, .long 0, .int 0, .int 0, .int 0, .int (-1), .ref (ad 6), .ref (ad 7), .ref (ad 8), .ref (ad 9), .ref (ad 10), .ref (ad 11), .ref (ad 12), .ref (ad 13), .ref (ad 14), .ref (ad 15), .int 0, .int 0, .ref (ad 16), .int 0, .int 0, .int 0, .int 0, .int 0, .ref (ad 17), .ref (ad 18), .int 0, .ref (ad 19)]) := (up_ne e97 (by decide) c_96)
  refine xget E hQ 0 (by decide) c_99 rfl 18 (by decide) q1486 rfl dX12_clears_36 ?_
  refine lv_bipush (v := 96) hx hb dX12_clears_39 (by decide) ?_
  refine lv_iload_n hx hb dX12_clears_41 rfl (lv_at hl 0 rfl) ?_
  refine lv_iadd hx hb dX12_clears_42 ?_
  refine sb_at (P := fun z => W _ _ _ _ _ _ _ _ _ _ _ _ _ _ _ (F0 _ _ _ (.int z :: _))) (show (96 : Int32) + 21 = 117 by decide) ?_
  refine lv_iconst (v := 0) hx hb dX12_clears_43 (by decide) ?_
  refine xiast E hs hQ 8 (by decide) u97 (vp_in_lit 117 120 (by decide)) dX12_clears_44 (fun H locs S100 e100 hQ => ?_)
  obtain ⟨g100, eg100⟩ : ∃ f : Nat → Int32, f = upd g97 (117 : Int32).toNatClampNeg 0 := ⟨_, rfl⟩
  rw [← eg100] at e100
  have u100 : S100 8 = .inl (g.2 0, 120, .inl g100) := up_at e100 rfl
  refine lv_iinc (v := 22) (lv' := [(1, .int 22), (0, .ref (ad 0))]) hx hb dX12_clears_45 hl (k := 0) rfl (by decide) (by decide) rfl (fun ls hl => ?_)
  refine lv_goto (tgt := 29) hx hb dX12_clears_48 (by decide) ?_
  refine lv_iload_n hx hb dX12_clears_29 rfl (lv_at hl 0 rfl) ?_
  refine lv_bipush (v := 24) hx hb dX12_clears_30 (by decide) ?_
  refine lv_icmp_ge (tgt := 51) hx hb dX12_clears_32 (by decide) (fun k_101 => absurd k_101 (by decide)) (fun k_101 => ?_)
  refine lv_aload_n hx hb dX12_clears_35 rfl (lv_at hl 1 rfl) ?_
  have c_102 : S100 0 = .inr (12, [.int 0, .ref (ad 1), .ref (ad 2), .ref (ad 3), .ref (ad 4), .ref (ad 5), .int 0, .int 0, .int 0, .int 0, .int 0, .long 0, .int 0, .int 0, .int 0, .int (-1), .ref (ad 6), .ref (ad 7), .ref (ad 8), .ref (ad 9), .ref (ad 10), .ref (ad 11), .ref (ad 12), .ref (ad 13), .ref (ad 14), .ref (ad 15), .int 0, .int 0, .ref (ad 16), .int 0, .int 0, .int 0, .int 0, .int 0, .ref (ad 17), .ref (ad 18), .int 0, .ref (ad 19)]) := (up_ne e100 (by decide) c_99)
  refine xget E hQ 0 (by decide) c_102 rfl 18 (by decide) q1486 rfl dX12_clears_36 ?_
  refine lv_bipush (v := 96) hx hb dX12_clears_39 (by decide) ?_
  refine lv_iload_n hx hb dX12_clears_41 rfl (lv_at hl 0 rfl) ?_
  refine lv_iadd hx hb dX12_clears_42 ?_
  refine sb_at (P := fun z => W _ _ _ _ _ _ _ _ _ _ _ _ _ _ _ (F0 _ _ _ (.int z :: _))) (show (96 : Int32) + 22 = 118 by decide) ?_
  refine lv_iconst (v := 0) hx hb dX12_clears_43 (by decide) ?_
  refine xiast E hs hQ 8 (by decide) u100 (vp_in_lit 118 120 (by decide)) dX12_clears_44 (fun H locs S103 e103 hQ => ?_)
  obtain ⟨g103, eg103⟩ : ∃ f : Nat → Int32, f = upd g100 (118 : Int32).toNatClampNeg 0 := ⟨_, rfl⟩
  rw [← eg103] at e103
  have u103 : S103 8 = .inl (g.2 0, 120, .inl g103) := up_at e103 rfl
  refine lv_iinc (v := 23) (lv' := [(1, .int 23), (0, .ref (ad 0))]) hx hb dX12_clears_45 hl (k := 0) rfl (by decide) (by decide) rfl (fun ls hl => ?_)
  refine lv_goto (tgt := 29) hx hb dX12_clears_48 (by decide) ?_
  refine lv_iload_n hx hb dX12_clears_29 rfl (lv_at hl 0 rfl) ?_
  refine lv_bipush (v := 24) hx hb dX12_clears_30 (by decide) ?_
  refine lv_icmp_ge (tgt := 51) hx hb dX12_clears_32 (by decide) (fun k_104 => absurd k_104 (by decide)) (fun k_104 => ?_)
  refine lv_aload_n hx hb dX12_clears_35 rfl (lv_at hl 1 rfl) ?_
  have c_105 : S103 0 = .inr (12, [.int 0, .ref (ad 1), .ref (ad 2), .ref (ad 3), .ref (ad 4), .ref (ad 5), .int 0, .int 0, .int 0, .int 0, .int 0, .long 0, .int 0, .int 0, .int 0, .int (-1), .ref (ad 6), .ref (ad 7), .ref (ad 8), .ref (ad 9), .ref (ad 10), .ref (ad 11), .ref (ad 12), .ref (ad 13), .ref (ad 14), .ref (ad 15), .int 0, .int 0, .ref (ad 16), .int 0, .int 0, .int 0, .int 0, .int 0, .ref (ad 17), .ref (ad 18), .int 0, .ref (ad 19)]) := (up_ne e103 (by decide) c_102)
  refine xget E hQ 0 (by decide) c_105 rfl 18 (by decide) q1486 rfl dX12_clears_36 ?_
  refine lv_bipush (v := 96) hx hb dX12_clears_39 (by decide) ?_
  refine lv_iload_n hx hb dX12_clears_41 rfl (lv_at hl 0 rfl) ?_
  refine lv_iadd hx hb dX12_clears_42 ?_
  refine sb_at (P := fun z => W _ _ _ _ _ _ _ _ _ _ _ _ _ _ _ (F0 _ _ _ (.int z :: _))) (show (96 : Int32) + 23 = 119 by decide) ?_
  refine lv_iconst (v := 0) hx hb dX12_clears_43 (by decide) ?_
  refine xiast E hs hQ 8 (by decide) u103 (vp_in_lit 119 120 (by decide)) dX12_clears_44 (fun H locs S106 e106 hQ => ?_)
  obtain ⟨g106, eg106⟩ : ∃ f : Nat → Int32, f = upd g103 (119 : Int32).toNatClampNeg 0 := ⟨_, rfl⟩
  rw [← eg106] at e106
  have u106 : S106 8 = .inl (g.2 0, 120, .inl g106) := up_at e106 rfl
  refine lv_iinc (v := 24) (lv' := [(1, .int 24), (0, .ref (ad 0))]) hx hb dX12_clears_45 hl (k := 0) rfl (by decide) (by decide) rfl (fun ls hl => ?_)
  refine lv_goto (tgt := 29) hx hb dX12_clears_48 (by decide) ?_
  refine lv_iload_n hx hb dX12_clears_29 rfl (lv_at hl 0 rfl) ?_
  refine lv_bipush (v := 24) hx hb dX12_clears_30 (by decide) ?_
  refine lv_icmp_ge (tgt := 51) hx hb dX12_clears_32 (by decide) (fun k_107 => ?_) (fun k_107 => absurd k_107 (by decide))
  have c_108 : S106 6 = .inl (g.2 0, 5, .inl (upd f6 (4 : Int32).toNatClampNeg 0)) := (up_ne e106 (by decide) (up_ne e103 (by decide) (up_ne e100 (by decide) (up_ne e97 (by decide) (up_ne e94 (by decide) (up_ne e91 (by decide) (up_ne e88 (by decide) (up_ne e85 (by decide) (up_ne e82 (by decide) (up_ne e79 (by decide) (up_ne e76 (by decide) (up_ne e73 (by decide) (up_ne e70 (by decide) (up_ne e67 (by decide) (up_ne e64 (by decide) (up_ne e61 (by decide) (up_ne e58 (by decide) (up_ne e55 (by decide) (up_ne e52 (by decide) (up_ne e49 (by decide) (up_ne e46 (by decide) (up_ne e43 (by decide) (up_ne e40 (by decide) (up_ne e37 (by decide) ((o32 6 (by decide)).trans ((o29 6 (by decide)).trans ((o26 6 (by decide)).trans ((o23 6 (by decide)).trans ((o20 6 (by decide)).trans ((o17 6 (by decide)).trans ((o14 6 (by decide)).trans ((o11 6 (by decide)).trans ((o8 6 (by decide)).trans ((o5 6 (by decide)).trans u1))))))))))))))))))))))))))))))))))
  have c_109 : S106 7 = .inl (g.2 0, 50, .inl f32_7) := (up_ne e106 (by decide) (up_ne e103 (by decide) (up_ne e100 (by decide) (up_ne e97 (by decide) (up_ne e94 (by decide) (up_ne e91 (by decide) (up_ne e88 (by decide) (up_ne e85 (by decide) (up_ne e82 (by decide) (up_ne e79 (by decide) (up_ne e76 (by decide) (up_ne e73 (by decide) (up_ne e70 (by decide) (up_ne e67 (by decide) (up_ne e64 (by decide) (up_ne e61 (by decide) (up_ne e58 (by decide) (up_ne e55 (by decide) (up_ne e52 (by decide) (up_ne e49 (by decide) (up_ne e46 (by decide) (up_ne e43 (by decide) (up_ne e40 (by decide) (up_ne e37 (by decide) v32_7))))))))))))))))))))))))
  exact xrv E hr hlk hQ (⟨fun j hj => (up_ne e106 (fun h => hj (by subst h; decide)) (up_ne e103 (fun h => hj (by subst h; decide)) (up_ne e100 (fun h => hj (by subst h; decide)) (up_ne e97 (fun h => hj (by subst h; decide)) (up_ne e94 (fun h => hj (by subst h; decide)) (up_ne e91 (fun h => hj (by subst h; decide)) (up_ne e88 (fun h => hj (by subst h; decide)) (up_ne e85 (fun h => hj (by subst h; decide)) (up_ne e82 (fun h => hj (by subst h; decide)) (up_ne e79 (fun h => hj (by subst h; decide)) (up_ne e76 (fun h => hj (by subst h; decide)) (up_ne e73 (fun h => hj (by subst h; decide)) (up_ne e70 (fun h => hj (by subst h; decide)) (up_ne e67 (fun h => hj (by subst h; decide)) (up_ne e64 (fun h => hj (by subst h; decide)) (up_ne e61 (fun h => hj (by subst h; decide)) (up_ne e58 (fun h => hj (by subst h; decide)) (up_ne e55 (fun h => hj (by subst h; decide)) (up_ne e52 (fun h => hj (by subst h; decide)) (up_ne e49 (fun h => hj (by subst h; decide)) (up_ne e46 (fun h => hj (by subst h; decide)) (up_ne e43 (fun h => hj (by subst h; decide)) (up_ne e40 (fun h => hj (by subst h; decide)) (up_ne e37 (fun h => hj (by subst h; decide)) ((o32 j (fun h => hj ((by decide : ∀ x ∈ ([7] : List Nat), x ∈ ([6, 7, 8] : List Nat)) j h))).trans ((o29 j (fun h => hj ((by decide : ∀ x ∈ ([7] : List Nat), x ∈ ([6, 7, 8] : List Nat)) j h))).trans ((o26 j (fun h => hj ((by decide : ∀ x ∈ ([7] : List Nat), x ∈ ([6, 7, 8] : List Nat)) j h))).trans ((o23 j (fun h => hj ((by decide : ∀ x ∈ ([7] : List Nat), x ∈ ([6, 7, 8] : List Nat)) j h))).trans ((o20 j (fun h => hj ((by decide : ∀ x ∈ ([7] : List Nat), x ∈ ([6, 7, 8] : List Nat)) j h))).trans ((o17 j (fun h => hj ((by decide : ∀ x ∈ ([7] : List Nat), x ∈ ([6, 7, 8] : List Nat)) j h))).trans ((o14 j (fun h => hj ((by decide : ∀ x ∈ ([7] : List Nat), x ∈ ([6, 7, 8] : List Nat)) j h))).trans ((o11 j (fun h => hj ((by decide : ∀ x ∈ ([7] : List Nat), x ∈ ([6, 7, 8] : List Nat)) j h))).trans ((o8 j (fun h => hj ((by decide : ∀ x ∈ ([7] : List Nat), x ∈ ([6, 7, 8] : List Nat)) j h))).trans ((o5 j (fun h => hj ((by decide : ∀ x ∈ ([7] : List Nat), x ∈ ([6, 7, 8] : List Nat)) j h))).trans (up_ne e1 (fun h => hj (by subst h; decide)) rfl))))))))))))))))))))))))))))))))))), c_108, ⟨_, c_109⟩, ⟨_, u106⟩⟩) dX12_clears_51
set_option maxHeartbeats 4000000 in
set_option maxRecDepth 100000 in
theorem isByte_0 (l : Launch) (g : GG) (ad : Nat → Nat) (hD : Dj ad 20) (S : SS) (a2 : Int32) (a3 : Int32) (h0 : S 0 = .inr (12, [.int 0, .ref (ad 1), .ref (ad 2), .ref (ad 3), .ref (ad 4), .ref (ad 5), .int 0, .int 0, .int 0, .int 0, .int 0, .long 0, .int 0, .int (-1), .int 0, .int (-1), .ref (ad 6), .ref (ad 7), .ref (ad 8), .ref (ad 9), .ref (ad 10), .ref (ad 11), .ref (ad 12), .ref (ad 13), .ref (ad 14), .ref (ad 15), .int 0, .int 0, .ref (ad 16), .int 0, .int 0, .int 0, .int 0, .int 0, .ref (ad 17), .ref (ad 18), .int 0, .ref (ad 19)])) : Met l yX12_isByte (wG (.code yX12_isByte cX12_isByte 4 (some .boolean))) (Rm 0) (XPre g ad 20 S [.ref (ad 0), .int 0, .int a2, .int a3]) (va_Qi (fun r S' => (∀ j, j ∉ ([] : List Nat) → S' j = S j) ∧ r = 0) (QB g ad 20) (FA ad 20)) 0 0 (FA ad 20) := by
  refine xmet cX12_isByte "EbbWreckModel" (by decide) rfl (Nat.le_of_ble_eq_true rfl) (fun p e s m below meth c E hr hlk hml hQ ls hl => ?_)
  have hx := E.1
  have hb := E.2.1
  have hs : Sp ad 20 (FA ad 20) := Sp.fa hD
  have hl : lv_has ls 4 [(0, .ref (ad 0)), (1, .int 0), (2, .int a2), (3, .int a3)] := hl
  refine lv_iload_n hx hb dX12_isByte_0 rfl (lv_at hl 1 rfl) ?_
  refine lv_aload_n hx hb dX12_isByte_1 rfl (lv_at hl 0 rfl) ?_
  refine xget E hQ 0 (by decide) h0 rfl 6 (by decide) q1474 rfl dX12_isByte_2 ?_
  refine lv_icmp_ge (tgt := 32) hx hb dX12_isByte_5 (by decide) (fun k_1 => ?_) (fun k_1 => absurd k_1 (by decide))
  refine lv_iconst (v := 0) hx hb dX12_isByte_32 (by decide) ?_
  exact xrz E hr hlk hQ rfl (⟨fun j hj => rfl, rfl⟩) dX12_isByte_33
set_option maxHeartbeats 4000000 in
set_option maxRecDepth 100000 in
theorem next_0 (l : Launch) (g : GG) (ad : Nat → Nat) (hD : Dj ad 20) (S : SS) (h0 : S 0 = .inr (12, [.int 0, .ref (ad 1), .ref (ad 2), .ref (ad 3), .ref (ad 4), .ref (ad 5), .int 0, .int 0, .int 0, .int 0, .int 0, .long 0, .int 0, .int (-1), .int 0, .int (-1), .ref (ad 6), .ref (ad 7), .ref (ad 8), .ref (ad 9), .ref (ad 10), .ref (ad 11), .ref (ad 12), .ref (ad 13), .ref (ad 14), .ref (ad 15), .int 0, .int 0, .ref (ad 16), .int 0, .int 0, .int 0, .int 0, .int 0, .ref (ad 17), .ref (ad 18), .int 0, .ref (ad 19)])) : Met l yX12_next (wG (.code yX12_next cX12_next 2 none)) (Rm 1) (XPre g ad 20 S [.ref (ad 0)]) (va_Qv (fun S' => (∀ j, j ∉ ([0] : List Nat) → S' j = S j) ∧ S' 0 = .inr (12, [.int 0, .ref (ad 1), .ref (ad 2), .ref (ad 3), .ref (ad 4), .ref (ad 5), .int 0, .int 0, .int 0, .int 0, .int 0, .long 0, .int 0, .int (-1), .int 0, .int (-1), .ref (ad 6), .ref (ad 7), .ref (ad 8), .ref (ad 9), .ref (ad 10), .ref (ad 11), .ref (ad 12), .ref (ad 13), .ref (ad 14), .ref (ad 15), .int 0, .int 0, .ref (ad 16), .int 0, .int 0, .int 0, .int 0, .int 0, .ref (ad 17), .ref (ad 18), .int 0, .ref (ad 19)])) (QB g ad 20) (FA ad 20)) 0 0 (FA ad 20) := by
  refine xmet cX12_next "EbbWreckModel" (by decide) rfl (Nat.le_of_ble_eq_true rfl) (fun p e s m below meth c E hr hlk hml hQ ls hl => ?_)
  have hx := E.1
  have hb := E.2.1
  have hs : Sp ad 20 (FA ad 20) := Sp.fa hD
  have hl : lv_has ls 2 [(0, .ref (ad 0))] := hl
  refine lv_aload_n hx hb dX12_next_0 rfl (lv_at hl 0 rfl) ?_
  refine lv_aload_n hx hb dX12_next_1 rfl (lv_at hl 0 rfl) ?_
  refine xget E hQ 0 (by decide) h0 rfl 7 (by decide) q1475 rfl dX12_next_2 ?_
  refine lv_bipush (v := 32) hx hb dX12_next_5 (by decide) ?_
  refine lv_bipush (v := 32) hx hb dX12_next_7 (by decide) ?_
  refine xcVi E hs hQ hml hl.1 0 (isByte_0 l g ad hD S 32 32 h0) mX12_isByte q1641 (by decide) h0 rfl rfl ⟨by decide, by decide⟩ ⟨by decide, by decide⟩ (Nat.le_of_ble_eq_true rfl) rfl dX12_next_9 (fun r1 S1 H locs hp1 hQ _ => ?_)
  obtain ⟨o1, rfl⟩ := hp1
  refine lv_if_ne (tgt := 30) hx hb dX12_next_12 (by decide) (fun k_2 => absurd k_2 (by decide)) (fun k_2 => ?_)
  refine lv_aload_n hx hb dX12_next_15 rfl (lv_at hl 0 rfl) ?_
  refine lv_aload_n hx hb dX12_next_16 rfl (lv_at hl 0 rfl) ?_
  have c_3 : S1 0 = .inr (12, [.int 0, .ref (ad 1), .ref (ad 2), .ref (ad 3), .ref (ad 4), .ref (ad 5), .int 0, .int 0, .int 0, .int 0, .int 0, .long 0, .int 0, .int (-1), .int 0, .int (-1), .ref (ad 6), .ref (ad 7), .ref (ad 8), .ref (ad 9), .ref (ad 10), .ref (ad 11), .ref (ad 12), .ref (ad 13), .ref (ad 14), .ref (ad 15), .int 0, .int 0, .ref (ad 16), .int 0, .int 0, .int 0, .int 0, .int 0, .ref (ad 17), .ref (ad 18), .int 0, .ref (ad 19)]) := ((o1 0 (by decide)).trans h0)
  refine xget E hQ 0 (by decide) c_3 rfl 7 (by decide) q1475 rfl dX12_next_17 ?_
  refine lv_bipush (v := 10) hx hb dX12_next_20 (by decide) ?_
  refine lv_bipush (v := 10) hx hb dX12_next_22 (by decide) ?_
  refine xcVi E hs hQ hml hl.1 0 (isByte_0 l g ad hD S1 10 10 c_3) mX12_isByte q1641 (by decide) c_3 rfl rfl ⟨by decide, by decide⟩ ⟨by decide, by decide⟩ (Nat.le_of_ble_eq_true rfl) rfl dX12_next_24 (fun r4 S4 H locs hp4 hQ _ => ?_)
  obtain ⟨o4, rfl⟩ := hp4
  refine lv_if_eq (tgt := 43) hx hb dX12_next_27 (by decide) (fun k_5 => ?_) (fun k_5 => absurd k_5 (by decide))
  refine lv_aload_n hx hb dX12_next_43 rfl (lv_at hl 0 rfl) ?_
  refine lv_aload_n hx hb dX12_next_44 rfl (lv_at hl 0 rfl) ?_
  have c_6 : S4 0 = .inr (12, [.int 0, .ref (ad 1), .ref (ad 2), .ref (ad 3), .ref (ad 4), .ref (ad 5), .int 0, .int 0, .int 0, .int 0, .int 0, .long 0, .int 0, .int (-1), .int 0, .int (-1), .ref (ad 6), .ref (ad 7), .ref (ad 8), .ref (ad 9), .ref (ad 10), .ref (ad 11), .ref (ad 12), .ref (ad 13), .ref (ad 14), .ref (ad 15), .int 0, .int 0, .ref (ad 16), .int 0, .int 0, .int 0, .int 0, .int 0, .ref (ad 17), .ref (ad 18), .int 0, .ref (ad 19)]) := ((o4 0 (by decide)).trans c_3)
  refine xget E hQ 0 (by decide) c_6 rfl 7 (by decide) q1475 rfl dX12_next_45 ?_
  refine xputi E hs hQ 0 (by decide) c_6 rfl 9 (by decide) q1477 rfl rfl (Nat.le_of_ble_eq_true rfl) dX12_next_48 (fun H locs S7 e7 hQ => ?_)
  have u7 : S7 0 = .inr (12, [.int 0, .ref (ad 1), .ref (ad 2), .ref (ad 3), .ref (ad 4), .ref (ad 5), .int 0, .int 0, .int 0, .int 0, .int 0, .long 0, .int 0, .int (-1), .int 0, .int (-1), .ref (ad 6), .ref (ad 7), .ref (ad 8), .ref (ad 9), .ref (ad 10), .ref (ad 11), .ref (ad 12), .ref (ad 13), .ref (ad 14), .ref (ad 15), .int 0, .int 0, .ref (ad 16), .int 0, .int 0, .int 0, .int 0, .int 0, .ref (ad 17), .ref (ad 18), .int 0, .ref (ad 19)]) := up_at e7 rfl
  refine lv_aload_n hx hb dX12_next_51 rfl (lv_at hl 0 rfl) ?_
  refine lv_iconst (v := 0) hx hb dX12_next_52 (by decide) ?_
  refine xputi E hs hQ 0 (by decide) u7 rfl 10 (by decide) q1478 rfl rfl (Nat.le_of_ble_eq_true rfl) dX12_next_53 (fun H locs S8 e8 hQ => ?_)
  have u8 : S8 0 = .inr (12, [.int 0, .ref (ad 1), .ref (ad 2), .ref (ad 3), .ref (ad 4), .ref (ad 5), .int 0, .int 0, .int 0, .int 0, .int 0, .long 0, .int 0, .int (-1), .int 0, .int (-1), .ref (ad 6), .ref (ad 7), .ref (ad 8), .ref (ad 9), .ref (ad 10), .ref (ad 11), .ref (ad 12), .ref (ad 13), .ref (ad 14), .ref (ad 15), .int 0, .int 0, .ref (ad 16), .int 0, .int 0, .int 0, .int 0, .int 0, .ref (ad 17), .ref (ad 18), .int 0, .ref (ad 19)]) := up_at e8 rfl
  refine lv_aload_n hx hb dX12_next_56 rfl (lv_at hl 0 rfl) ?_
  refine lv_lconst (v := 0) hx hb dX12_next_57 (by decide) ?_
  refine xput (ty := .long) E hs hQ 0 (by decide) u8 rfl 11 (by decide) q1479 rfl (by decide +kernel) rfl rfl (Nat.le_of_ble_eq_true rfl) dX12_next_58 (fun H locs S9 e9 hQ => ?_)
  have u9 : S9 0 = .inr (12, [.int 0, .ref (ad 1), .ref (ad 2), .ref (ad 3), .ref (ad 4), .ref (ad 5), .int 0, .int 0, .int 0, .int 0, .int 0, .long 0, .int 0, .int (-1), .int 0, .int (-1), .ref (ad 6), .ref (ad 7), .ref (ad 8), .ref (ad 9), .ref (ad 10), .ref (ad 11), .ref (ad 12), .ref (ad 13), .ref (ad 14), .ref (ad 15), .int 0, .int 0, .ref (ad 16), .int 0, .int 0, .int 0, .int 0, .int 0, .ref (ad 17), .ref (ad 18), .int 0, .ref (ad 19)]) := up_at e9 rfl
  refine lv_aload_n hx hb dX12_next_61 rfl (lv_at hl 0 rfl) ?_
  refine xget E hQ 0 (by decide) u9 rfl 7 (by decide) q1475 rfl dX12_next_62 ?_
  refine lv_aload_n hx hb dX12_next_65 rfl (lv_at hl 0 rfl) ?_
  refine xget E hQ 0 (by decide) u9 rfl 6 (by decide) q1474 rfl dX12_next_66 ?_
  refine lv_icmp_ne (tgt := 80) hx hb dX12_next_69 (by decide) (fun k_10 => absurd k_10 (by decide)) (fun k_10 => ?_)
  refine lv_aload_n hx hb dX12_next_72 rfl (lv_at hl 0 rfl) ?_
  refine lv_iconst (v := 0) hx hb dX12_next_73 (by decide) ?_
  refine xputi E hs hQ 0 (by decide) u9 rfl 8 (by decide) q1476 rfl rfl (Nat.le_of_ble_eq_true rfl) dX12_next_74 (fun H locs S11 e11 hQ => ?_)
  have u11 : S11 0 = .inr (12, [.int 0, .ref (ad 1), .ref (ad 2), .ref (ad 3), .ref (ad 4), .ref (ad 5), .int 0, .int 0, .int 0, .int 0, .int 0, .long 0, .int 0, .int (-1), .int 0, .int (-1), .ref (ad 6), .ref (ad 7), .ref (ad 8), .ref (ad 9), .ref (ad 10), .ref (ad 11), .ref (ad 12), .ref (ad 13), .ref (ad 14), .ref (ad 15), .int 0, .int 0, .ref (ad 16), .int 0, .int 0, .int 0, .int 0, .int 0, .ref (ad 17), .ref (ad 18), .int 0, .ref (ad 19)]) := up_at e11 rfl
  refine lv_goto (tgt := 307) hx hb dX12_next_77 (by decide) ?_
  exact xrv E hr hlk hQ (⟨fun j hj => (up_ne e11 (fun h => hj (by subst h; decide)) (up_ne e9 (fun h => hj (by subst h; decide)) (up_ne e8 (fun h => hj (by subst h; decide)) (up_ne e7 (fun h => hj (by subst h; decide)) ((o4 j (fun h => hj ((by decide : ∀ x ∈ ([] : List Nat), x ∈ ([0] : List Nat)) j h))).trans ((o1 j (fun h => hj ((by decide : ∀ x ∈ ([] : List Nat), x ∈ ([0] : List Nat)) j h))).trans rfl)))))), u11⟩) dX12_next_307
set_option maxHeartbeats 4000000 in
set_option maxRecDepth 100000 in
theorem begins_0 (l : Launch) (g : GG) (ad : Nat → Nat) (hD : Dj ad 20) (S : SS) (h0 : S 0 = .inr (12, [.int 0, .ref (ad 1), .ref (ad 2), .ref (ad 3), .ref (ad 4), .ref (ad 5), .int 0, .int 0, .int 0, .int 0, .int 0, .long 0, .int 0, .int 0, .int 0, .int (-1), .ref (ad 6), .ref (ad 7), .ref (ad 8), .ref (ad 9), .ref (ad 10), .ref (ad 11), .ref (ad 12), .ref (ad 13), .ref (ad 14), .ref (ad 15), .int 0, .int 0, .ref (ad 16), .int 0, .int 0, .int 0, .int 0, .int 0, .ref (ad 17), .ref (ad 18), .int 0, .ref (ad 19)])) : Met l yX12_begins (wG (.code yX12_begins cX12_begins 1 none)) (Rm 2) (XPre g ad 20 S [.ref (ad 0)]) (va_Qv (fun S' => (∀ j, j ∉ ([0] : List Nat) → S' j = S j) ∧ S' 0 = .inr (12, [.int 0, .ref (ad 1), .ref (ad 2), .ref (ad 3), .ref (ad 4), .ref (ad 5), .int 0, .int 0, .int 0, .int 0, .int 0, .long 0, .int 0, .int (-1), .int 0, .int (-1), .ref (ad 6), .ref (ad 7), .ref (ad 8), .ref (ad 9), .ref (ad 10), .ref (ad 11), .ref (ad 12), .ref (ad 13), .ref (ad 14), .ref (ad 15), .int 0, .int 0, .ref (ad 16), .int 0, .int 0, .int 0, .int 0, .int 0, .ref (ad 17), .ref (ad 18), .int 0, .ref (ad 19)])) (QB g ad 20) (FA ad 20)) 0 0 (FA ad 20) := by
  refine xmet cX12_begins "EbbWreckModel" (by decide) rfl (Nat.le_of_ble_eq_true rfl) (fun p e s m below meth c E hr hlk hml hQ ls hl => ?_)
  have hx := E.1
  have hb := E.2.1
  have hs : Sp ad 20 (FA ad 20) := Sp.fa hD
  have hl : lv_has ls 1 [(0, .ref (ad 0))] := hl
  refine lv_aload_n hx hb dX12_begins_0 rfl (lv_at hl 0 rfl) ?_
  refine lv_iconst (v := 0) hx hb dX12_begins_1 (by decide) ?_
  refine xputi E hs hQ 0 (by decide) h0 rfl 12 (by decide) q1480 rfl rfl (Nat.le_of_ble_eq_true rfl) dX12_begins_2 (fun H locs S1 e1 hQ => ?_)
  have u1 : S1 0 = .inr (12, [.int 0, .ref (ad 1), .ref (ad 2), .ref (ad 3), .ref (ad 4), .ref (ad 5), .int 0, .int 0, .int 0, .int 0, .int 0, .long 0, .int 0, .int 0, .int 0, .int (-1), .ref (ad 6), .ref (ad 7), .ref (ad 8), .ref (ad 9), .ref (ad 10), .ref (ad 11), .ref (ad 12), .ref (ad 13), .ref (ad 14), .ref (ad 15), .int 0, .int 0, .ref (ad 16), .int 0, .int 0, .int 0, .int 0, .int 0, .ref (ad 17), .ref (ad 18), .int 0, .ref (ad 19)]) := up_at e1 rfl
  refine lv_aload_n hx hb dX12_begins_5 rfl (lv_at hl 0 rfl) ?_
  refine lv_iconst (v := (-1)) hx hb dX12_begins_6 (by decide) ?_
  refine xputi E hs hQ 0 (by decide) u1 rfl 13 (by decide) q1481 rfl rfl (Nat.le_of_ble_eq_true rfl) dX12_begins_7 (fun H locs S2 e2 hQ => ?_)
  have u2 : S2 0 = .inr (12, [.int 0, .ref (ad 1), .ref (ad 2), .ref (ad 3), .ref (ad 4), .ref (ad 5), .int 0, .int 0, .int 0, .int 0, .int 0, .long 0, .int 0, .int (-1), .int 0, .int (-1), .ref (ad 6), .ref (ad 7), .ref (ad 8), .ref (ad 9), .ref (ad 10), .ref (ad 11), .ref (ad 12), .ref (ad 13), .ref (ad 14), .ref (ad 15), .int 0, .int 0, .ref (ad 16), .int 0, .int 0, .int 0, .int 0, .int 0, .ref (ad 17), .ref (ad 18), .int 0, .ref (ad 19)]) := up_at e2 rfl
  refine lv_aload_n hx hb dX12_begins_10 rfl (lv_at hl 0 rfl) ?_
  refine lv_iconst (v := 0) hx hb dX12_begins_11 (by decide) ?_
  refine xputi E hs hQ 0 (by decide) u2 rfl 7 (by decide) q1475 rfl rfl (Nat.le_of_ble_eq_true rfl) dX12_begins_12 (fun H locs S3 e3 hQ => ?_)
  have u3 : S3 0 = .inr (12, [.int 0, .ref (ad 1), .ref (ad 2), .ref (ad 3), .ref (ad 4), .ref (ad 5), .int 0, .int 0, .int 0, .int 0, .int 0, .long 0, .int 0, .int (-1), .int 0, .int (-1), .ref (ad 6), .ref (ad 7), .ref (ad 8), .ref (ad 9), .ref (ad 10), .ref (ad 11), .ref (ad 12), .ref (ad 13), .ref (ad 14), .ref (ad 15), .int 0, .int 0, .ref (ad 16), .int 0, .int 0, .int 0, .int 0, .int 0, .ref (ad 17), .ref (ad 18), .int 0, .ref (ad 19)]) := up_at e3 rfl
  refine lv_aload_n hx hb dX12_begins_15 rfl (lv_at hl 0 rfl) ?_
  refine xcVv E hs hQ hml hl.1 0 (next_0 l g ad hD S3 u3) mX12_next q1637 (by decide) u3 rfl rfl ⟨by decide, by decide⟩ ⟨by decide, by decide⟩ (Nat.le_of_ble_eq_true rfl) rfl dX12_begins_16 (fun S4 H locs hp4 hQ _ => ?_)
  obtain ⟨o4, v4_0⟩ := hp4
  exact xrv E hr hlk hQ (⟨fun j hj => ((o4 j (fun h => hj ((by decide : ∀ x ∈ ([0] : List Nat), x ∈ ([0] : List Nat)) j h))).trans (up_ne e3 (fun h => hj (by subst h; decide)) (up_ne e2 (fun h => hj (by subst h; decide)) (up_ne e1 (fun h => hj (by subst h; decide)) rfl)))), v4_0⟩) dX12_begins_19
set_option maxHeartbeats 4000000 in
set_option maxRecDepth 100000 in
theorem isGood_0 (l : Launch) (g : GG) (ad : Nat → Nat) (hD : Dj ad 20) (S : SS) (h0 : S 0 = .inr (12, [.int 0, .ref (ad 1), .ref (ad 2), .ref (ad 3), .ref (ad 4), .ref (ad 5), .int 0, .int 0, .int 0, .int 0, .int 0, .long 0, .int 0, .int (-1), .int 0, .int (-1), .ref (ad 6), .ref (ad 7), .ref (ad 8), .ref (ad 9), .ref (ad 10), .ref (ad 11), .ref (ad 12), .ref (ad 13), .ref (ad 14), .ref (ad 15), .int 0, .int 0, .ref (ad 16), .int 0, .int 0, .int 0, .int 0, .int 0, .ref (ad 17), .ref (ad 18), .int 0, .ref (ad 19)])) : Met l yX12_isGood (wG (.code yX12_isGood cX12_isGood 1 (some .boolean))) (Rm 0) (XPre g ad 20 S [.ref (ad 0)]) (va_Qi (fun r S' => (∀ j, j ∉ ([] : List Nat) → S' j = S j) ∧ r = 1) (QB g ad 20) (FA ad 20)) 0 0 (FA ad 20) := by
  refine xmet cX12_isGood "EbbWreckModel" (by decide) rfl (Nat.le_of_ble_eq_true rfl) (fun p e s m below meth c E hr hlk hml hQ ls hl => ?_)
  have hx := E.1
  have hb := E.2.1
  have hs : Sp ad 20 (FA ad 20) := Sp.fa hD
  have hl : lv_has ls 1 [(0, .ref (ad 0))] := hl
  refine lv_aload_n hx hb dX12_isGood_0 rfl (lv_at hl 0 rfl) ?_
  refine xget E hQ 0 (by decide) h0 rfl 12 (by decide) q1480 rfl dX12_isGood_1 ?_
  refine lv_if_ne (tgt := 11) hx hb dX12_isGood_4 (by decide) (fun k_1 => absurd k_1 (by decide)) (fun k_1 => ?_)
  refine lv_iconst (v := 1) hx hb dX12_isGood_7 (by decide) ?_
  refine lv_goto (tgt := 12) hx hb dX12_isGood_8 (by decide) ?_
  exact xrz E hr hlk hQ rfl (⟨fun j hj => rfl, rfl⟩) dX12_isGood_12
set_option maxHeartbeats 4000000 in
set_option maxRecDepth 100000 in
theorem isOver_0 (l : Launch) (g : GG) (ad : Nat → Nat) (hD : Dj ad 20) (S : SS) (h0 : S 0 = .inr (12, [.int 0, .ref (ad 1), .ref (ad 2), .ref (ad 3), .ref (ad 4), .ref (ad 5), .int 0, .int 0, .int 0, .int 0, .int 0, .long 0, .int 0, .int (-1), .int 0, .int (-1), .ref (ad 6), .ref (ad 7), .ref (ad 8), .ref (ad 9), .ref (ad 10), .ref (ad 11), .ref (ad 12), .ref (ad 13), .ref (ad 14), .ref (ad 15), .int 0, .int 0, .ref (ad 16), .int 0, .int 0, .int 0, .int 0, .int 0, .ref (ad 17), .ref (ad 18), .int 0, .ref (ad 19)])) : Met l yX12_isOver (wG (.code yX12_isOver cX12_isOver 1 none)) (Rm 0) (XPre g ad 20 S [.ref (ad 0)]) (va_Qv (fun S' => (∀ j, j ∉ ([0] : List Nat) → S' j = S j) ∧ S' 0 = .inr (12, [.int 0, .ref (ad 1), .ref (ad 2), .ref (ad 3), .ref (ad 4), .ref (ad 5), .int 0, .int 0, .int 0, .int 0, .int 0, .long 0, .int 0, .int (-1), .int 0, .int (-1), .ref (ad 6), .ref (ad 7), .ref (ad 8), .ref (ad 9), .ref (ad 10), .ref (ad 11), .ref (ad 12), .ref (ad 13), .ref (ad 14), .ref (ad 15), .int 0, .int 0, .ref (ad 16), .int 0, .int 0, .int 0, .int 0, .int 0, .ref (ad 17), .ref (ad 18), .int 0, .ref (ad 19)])) (QB g ad 20) (FA ad 20)) 0 0 (FA ad 20) := by
  refine xmet cX12_isOver "EbbWreckModel" (by decide) rfl (Nat.le_of_ble_eq_true rfl) (fun p e s m below meth c E hr hlk hml hQ ls hl => ?_)
  have hx := E.1
  have hb := E.2.1
  have hs : Sp ad 20 (FA ad 20) := Sp.fa hD
  have hl : lv_has ls 1 [(0, .ref (ad 0))] := hl
  refine lv_aload_n hx hb dX12_isOver_0 rfl (lv_at hl 0 rfl) ?_
  refine lv_iconst (v := 0) hx hb dX12_isOver_1 (by decide) ?_
  refine xputi E hs hQ 0 (by decide) h0 rfl 6 (by decide) q1474 rfl rfl (Nat.le_of_ble_eq_true rfl) dX12_isOver_2 (fun H locs S1 e1 hQ => ?_)
  have u1 : S1 0 = .inr (12, [.int 0, .ref (ad 1), .ref (ad 2), .ref (ad 3), .ref (ad 4), .ref (ad 5), .int 0, .int 0, .int 0, .int 0, .int 0, .long 0, .int 0, .int (-1), .int 0, .int (-1), .ref (ad 6), .ref (ad 7), .ref (ad 8), .ref (ad 9), .ref (ad 10), .ref (ad 11), .ref (ad 12), .ref (ad 13), .ref (ad 14), .ref (ad 15), .int 0, .int 0, .ref (ad 16), .int 0, .int 0, .int 0, .int 0, .int 0, .ref (ad 17), .ref (ad 18), .int 0, .ref (ad 19)]) := up_at e1 rfl
  refine lv_aload_n hx hb dX12_isOver_5 rfl (lv_at hl 0 rfl) ?_
  refine lv_aload_n hx hb dX12_isOver_6 rfl (lv_at hl 0 rfl) ?_
  refine xget E hQ 0 (by decide) u1 rfl 12 (by decide) q1480 rfl dX12_isOver_7 ?_
  refine xputi E hs hQ 0 (by decide) u1 rfl 14 (by decide) q1482 rfl rfl (Nat.le_of_ble_eq_true rfl) dX12_isOver_10 (fun H locs S2 e2 hQ => ?_)
  have u2 : S2 0 = .inr (12, [.int 0, .ref (ad 1), .ref (ad 2), .ref (ad 3), .ref (ad 4), .ref (ad 5), .int 0, .int 0, .int 0, .int 0, .int 0, .long 0, .int 0, .int (-1), .int 0, .int (-1), .ref (ad 6), .ref (ad 7), .ref (ad 8), .ref (ad 9), .ref (ad 10), .ref (ad 11), .ref (ad 12), .ref (ad 13), .ref (ad 14), .ref (ad 15), .int 0, .int 0, .ref (ad 16), .int 0, .int 0, .int 0, .int 0, .int 0, .ref (ad 17), .ref (ad 18), .int 0, .ref (ad 19)]) := up_at e2 rfl
  refine lv_aload_n hx hb dX12_isOver_13 rfl (lv_at hl 0 rfl) ?_
  refine lv_aload_n hx hb dX12_isOver_14 rfl (lv_at hl 0 rfl) ?_
  refine xget E hQ 0 (by decide) u2 rfl 12 (by decide) q1480 rfl dX12_isOver_15 ?_
  refine lv_if_ne (tgt := 25) hx hb dX12_isOver_18 (by decide) (fun k_3 => absurd k_3 (by decide)) (fun k_3 => ?_)
  refine lv_iconst (v := (-1)) hx hb dX12_isOver_21 (by decide) ?_
  refine lv_goto (tgt := 29) hx hb dX12_isOver_22 (by decide) ?_
  refine xputi E hs hQ 0 (by decide) u2 rfl 15 (by decide) q1483 rfl rfl (Nat.le_of_ble_eq_true rfl) dX12_isOver_29 (fun H locs S4 e4 hQ => ?_)
  have u4 : S4 0 = .inr (12, [.int 0, .ref (ad 1), .ref (ad 2), .ref (ad 3), .ref (ad 4), .ref (ad 5), .int 0, .int 0, .int 0, .int 0, .int 0, .long 0, .int 0, .int (-1), .int 0, .int (-1), .ref (ad 6), .ref (ad 7), .ref (ad 8), .ref (ad 9), .ref (ad 10), .ref (ad 11), .ref (ad 12), .ref (ad 13), .ref (ad 14), .ref (ad 15), .int 0, .int 0, .ref (ad 16), .int 0, .int 0, .int 0, .int 0, .int 0, .ref (ad 17), .ref (ad 18), .int 0, .ref (ad 19)]) := up_at e4 rfl
  exact xrv E hr hlk hQ (⟨fun j hj => (up_ne e4 (fun h => hj (by subst h; decide)) (up_ne e2 (fun h => hj (by subst h; decide)) (up_ne e1 (fun h => hj (by subst h; decide)) rfl))), u4⟩) dX12_isOver_32
set_option maxHeartbeats 4000000 in
set_option maxRecDepth 100000 in
theorem copyShore_4_0b (l : Launch) (g : GG) (ad : Nat → Nat) (hD : Dj ad 20) (S : SS) (f6 : Nat → Int32) (f7 : Nat → Int32) (f8 : Nat → Int32) (f9 : Nat → Int32) (f10 : Nat → Int32) (f11 : Nat → Int32) (f12 : Nat → Int32) (h0 : S 0 = .inr (12, [.int 0, .ref (ad 1), .ref (ad 2), .ref (ad 3), .ref (ad 4), .ref (ad 5), .int 0, .int 0, .int 0, .int 0, .int 0, .long 0, .int 0, .int (-1), .int 0, .int (-1), .ref (ad 6), .ref (ad 7), .ref (ad 8), .ref (ad 9), .ref (ad 10), .ref (ad 11), .ref (ad 12), .ref (ad 13), .ref (ad 14), .ref (ad 15), .int 0, .int 0, .ref (ad 16), .int 0, .int 0, .int 0, .int 0, .int 0, .ref (ad 17), .ref (ad 18), .int 0, .ref (ad 19)])) (h6 : S 6 = .inl (g.2 0, 5, .inl f6)) (h7 : S 7 = .inl (g.2 0, 50, .inl f7)) (h8 : S 8 = .inl (g.2 0, 120, .inl f8)) (h9 : S 9 = .inl (g.2 0, 120, .inl f9)) (h10 : S 10 = .inl (g.2 0, 120, .inl f10)) (h11 : S 11 = .inl (g.2 0, 15, .inl f11)) (h12 : S 12 = .inl (g.2 0, 800, .inl f12)) : Met l yX12_copyShore (wG (.code yX12_copyShore cX12_copyShore 3 none)) (Rm 1) (XPre g ad 20 S [.ref (ad 0), .int 4, .int 0]) (va_Qv (fun S' => (∀ j, j ∉ ([6, 7, 8, 9, 10, 11, 12] : List Nat) → S' j = S j) ∧ S' 6 = .inl (g.2 0, 5, .inl (cpF f6 1 4 0 1)) ∧ (∃ f : Nat → Int32, S' 7 = .inl (g.2 0, 50, .inl f)) ∧ (∃ f : Nat → Int32, S' 8 = .inl (g.2 0, 120, .inl f)) ∧ (∃ f : Nat → Int32, S' 9 = .inl (g.2 0, 120, .inl f)) ∧ (∃ f : Nat → Int32, S' 10 = .inl (g.2 0, 120, .inl f)) ∧ (∃ f : Nat → Int32, S' 11 = .inl (g.2 0, 15, .inl f)) ∧ (∃ f : Nat → Int32, S' 12 = .inl (g.2 0, 800, .inl f))) (QB g ad 20) (FA ad 20)) 0 0 (FA ad 20) := by
  refine xmet cX12_copyShore "EbbWreckModel" (by decide) rfl (Nat.le_of_ble_eq_true rfl) (fun p e s m below meth c E hr hlk hml hQ ls hl => ?_)
  have hx := E.1
  have hb := E.2.1
  have hs : Sp ad 20 (FA ad 20) := Sp.fa hD
  have hl : lv_has ls 3 [(0, .ref (ad 0)), (1, .int 4), (2, .int 0)] := hl
  refine lv_aload_n hx hb dX12_copyShore_0 rfl (lv_at hl 0 rfl) ?_
  refine xget E hQ 0 (by decide) h0 rfl 16 (by decide) q1484 rfl dX12_copyShore_1 ?_
  refine lv_iconst (v := 1) hx hb dX12_copyShore_4 (by decide) ?_
  refine lv_iload_n hx hb dX12_copyShore_5 rfl (lv_at hl 1 rfl) ?_
  refine lv_iload_n hx hb dX12_copyShore_6 rfl (lv_at hl 2 rfl) ?_
  refine xcSv E hs hQ hml hl.1 (uCopyRow l g ad _ hD S 6 (by decide) 5 (by decide) f6 1 4 0 (by decide) (by decide) (by decide) h6) mX12_copyRow q1743 rfl ⟨by decide, by decide⟩ ⟨by decide, by decide⟩ (Nat.le_of_ble_eq_true rfl) rfl dX12_copyShore_7 (fun S1 H locs hp1 hQ => ?_)
  have e1 := hp1
  have u1 : S1 6 = .inl (g.2 0, 5, .inl (cpF f6 1 4 0 1)) := up_at e1 rfl
  refine lv_aload_n hx hb dX12_copyShore_10 rfl (lv_at hl 0 rfl) ?_
  have c_2 : S1 0 = .inr (12, [.int 0, .ref (ad 1), .ref (ad 2), .ref (ad 3), .ref (ad 4), .ref (ad 5), .int 0, .int 0, .int 0, .int 0, .int 0, .long 0, .int 0, .int (-1), .int 0, .int (-1), .ref (ad 6), .ref (ad 7), .ref (ad 8), .ref (ad 9), .ref (ad 10), .ref (ad 11), .ref (ad 12), .ref (ad 13), .ref (ad 14), .ref (ad 15), .int 0, .int 0, .ref (ad 16), .int 0, .int 0, .int 0, .int 0, .int 0, .ref (ad 17), .ref (ad 18), .int 0, .ref (ad 19)]) := (up_ne e1 (by decide) h0)
  refine xget E hQ 0 (by decide) c_2 rfl 17 (by decide) q1485 rfl dX12_copyShore_11 ?_
  refine lv_bipush (v := 10) hx hb dX12_copyShore_14 (by decide) ?_
  refine lv_iload_n hx hb dX12_copyShore_16 rfl (lv_at hl 1 rfl) ?_
  refine lv_iload_n hx hb dX12_copyShore_17 rfl (lv_at hl 2 rfl) ?_
  have c_3 : S1 7 = .inl (g.2 0, 50, .inl f7) := (up_ne e1 (by decide) h7)
  refine xcSv E hs hQ hml hl.1 (uCopyRow l g ad _ hD S1 7 (by decide) 50 (by decide) f7 10 4 0 (by decide) (by decide) (by decide) c_3) mX12_copyRow q1743 rfl ⟨by decide, by decide⟩ ⟨by decide, by decide⟩ (Nat.le_of_ble_eq_true rfl) rfl dX12_copyShore_18 (fun S4 H locs hp4 hQ => ?_)
  have e4 := hp4
  have u4 : S4 7 = .inl (g.2 0, 50, .inl (cpF f7 10 4 0 10)) := up_at e4 rfl
  refine lv_aload_n hx hb dX12_copyShore_21 rfl (lv_at hl 0 rfl) ?_
  have c_5 : S4 0 = .inr (12, [.int 0, .ref (ad 1), .ref (ad 2), .ref (ad 3), .ref (ad 4), .ref (ad 5), .int 0, .int 0, .int 0, .int 0, .int 0, .long 0, .int 0, .int (-1), .int 0, .int (-1), .ref (ad 6), .ref (ad 7), .ref (ad 8), .ref (ad 9), .ref (ad 10), .ref (ad 11), .ref (ad 12), .ref (ad 13), .ref (ad 14), .ref (ad 15), .int 0, .int 0, .ref (ad 16), .int 0, .int 0, .int 0, .int 0, .int 0, .ref (ad 17), .ref (ad 18), .int 0, .ref (ad 19)]) := (up_ne e4 (by decide) c_2)
  refine xget E hQ 0 (by decide) c_5 rfl 18 (by decide) q1486 rfl dX12_copyShore_22 ?_
  refine lv_bipush (v := 24) hx hb dX12_copyShore_25 (by decide) ?_
  refine lv_iload_n hx hb dX12_copyShore_27 rfl (lv_at hl 1 rfl) ?_
  refine lv_iload_n hx hb dX12_copyShore_28 rfl (lv_at hl 2 rfl) ?_
  have c_6 : S4 8 = .inl (g.2 0, 120, .inl f8) := (up_ne e4 (by decide) (up_ne e1 (by decide) h8))
  refine xcSv E hs hQ hml hl.1 (uCopyRow l g ad _ hD S4 8 (by decide) 120 (by decide) f8 24 4 0 (by decide) (by decide) (by decide) c_6) mX12_copyRow q1743 rfl ⟨by decide, by decide⟩ ⟨by decide, by decide⟩ (Nat.le_of_ble_eq_true rfl) rfl dX12_copyShore_29 (fun S7 H locs hp7 hQ => ?_)
  have e7 := hp7
  have u7 : S7 8 = .inl (g.2 0, 120, .inl (cpF f8 24 4 0 24)) := up_at e7 rfl
  refine lv_aload_n hx hb dX12_copyShore_32 rfl (lv_at hl 0 rfl) ?_
  have c_8 : S7 0 = .inr (12, [.int 0, .ref (ad 1), .ref (ad 2), .ref (ad 3), .ref (ad 4), .ref (ad 5), .int 0, .int 0, .int 0, .int 0, .int 0, .long 0, .int 0, .int (-1), .int 0, .int (-1), .ref (ad 6), .ref (ad 7), .ref (ad 8), .ref (ad 9), .ref (ad 10), .ref (ad 11), .ref (ad 12), .ref (ad 13), .ref (ad 14), .ref (ad 15), .int 0, .int 0, .ref (ad 16), .int 0, .int 0, .int 0, .int 0, .int 0, .ref (ad 17), .ref (ad 18), .int 0, .ref (ad 19)]) := (up_ne e7 (by decide) c_5)
  refine xget E hQ 0 (by decide) c_8 rfl 19 (by decide) q1487 rfl dX12_copyShore_33 ?_
  refine lv_bipush (v := 24) hx hb dX12_copyShore_36 (by decide) ?_
  refine lv_iload_n hx hb dX12_copyShore_38 rfl (lv_at hl 1 rfl) ?_
  refine lv_iload_n hx hb dX12_copyShore_39 rfl (lv_at hl 2 rfl) ?_
  have c_9 : S7 9 = .inl (g.2 0, 120, .inl f9) := (up_ne e7 (by decide) (up_ne e4 (by decide) (up_ne e1 (by decide) h9)))
  refine xcSv E hs hQ hml hl.1 (uCopyRow l g ad _ hD S7 9 (by decide) 120 (by decide) f9 24 4 0 (by decide) (by decide) (by decide) c_9) mX12_copyRow q1743 rfl ⟨by decide, by decide⟩ ⟨by decide, by decide⟩ (Nat.le_of_ble_eq_true rfl) rfl dX12_copyShore_40 (fun S10 H locs hp10 hQ => ?_)
  have e10 := hp10
  have u10 : S10 9 = .inl (g.2 0, 120, .inl (cpF f9 24 4 0 24)) := up_at e10 rfl
  refine lv_aload_n hx hb dX12_copyShore_43 rfl (lv_at hl 0 rfl) ?_
  have c_11 : S10 0 = .inr (12, [.int 0, .ref (ad 1), .ref (ad 2), .ref (ad 3), .ref (ad 4), .ref (ad 5), .int 0, .int 0, .int 0, .int 0, .int 0, .long 0, .int 0, .int (-1), .int 0, .int (-1), .ref (ad 6), .ref (ad 7), .ref (ad 8), .ref (ad 9), .ref (ad 10), .ref (ad 11), .ref (ad 12), .ref (ad 13), .ref (ad 14), .ref (ad 15), .int 0, .int 0, .ref (ad 16), .int 0, .int 0, .int 0, .int 0, .int 0, .ref (ad 17), .ref (ad 18), .int 0, .ref (ad 19)]) := (up_ne e10 (by decide) c_8)
  refine xget E hQ 0 (by decide) c_11 rfl 20 (by decide) q1488 rfl dX12_copyShore_44 ?_
  refine lv_bipush (v := 24) hx hb dX12_copyShore_47 (by decide) ?_
  refine lv_iload_n hx hb dX12_copyShore_49 rfl (lv_at hl 1 rfl) ?_
  refine lv_iload_n hx hb dX12_copyShore_50 rfl (lv_at hl 2 rfl) ?_
  have c_12 : S10 10 = .inl (g.2 0, 120, .inl f10) := (up_ne e10 (by decide) (up_ne e7 (by decide) (up_ne e4 (by decide) (up_ne e1 (by decide) h10))))
  refine xcSv E hs hQ hml hl.1 (uCopyRow l g ad _ hD S10 10 (by decide) 120 (by decide) f10 24 4 0 (by decide) (by decide) (by decide) c_12) mX12_copyRow q1743 rfl ⟨by decide, by decide⟩ ⟨by decide, by decide⟩ (Nat.le_of_ble_eq_true rfl) rfl dX12_copyShore_51 (fun S13 H locs hp13 hQ => ?_)
  have e13 := hp13
  have u13 : S13 10 = .inl (g.2 0, 120, .inl (cpF f10 24 4 0 24)) := up_at e13 rfl
  refine lv_aload_n hx hb dX12_copyShore_54 rfl (lv_at hl 0 rfl) ?_
  have c_14 : S13 0 = .inr (12, [.int 0, .ref (ad 1), .ref (ad 2), .ref (ad 3), .ref (ad 4), .ref (ad 5), .int 0, .int 0, .int 0, .int 0, .int 0, .long 0, .int 0, .int (-1), .int 0, .int (-1), .ref (ad 6), .ref (ad 7), .ref (ad 8), .ref (ad 9), .ref (ad 10), .ref (ad 11), .ref (ad 12), .ref (ad 13), .ref (ad 14), .ref (ad 15), .int 0, .int 0, .ref (ad 16), .int 0, .int 0, .int 0, .int 0, .int 0, .ref (ad 17), .ref (ad 18), .int 0, .ref (ad 19)]) := (up_ne e13 (by decide) c_11)
  refine xget E hQ 0 (by decide) c_14 rfl 21 (by decide) q1489 rfl dX12_copyShore_55 ?_
  refine lv_iconst (v := 3) hx hb dX12_copyShore_58 (by decide) ?_
  refine lv_iload_n hx hb dX12_copyShore_59 rfl (lv_at hl 1 rfl) ?_
  refine lv_iload_n hx hb dX12_copyShore_60 rfl (lv_at hl 2 rfl) ?_
  have c_15 : S13 11 = .inl (g.2 0, 15, .inl f11) := (up_ne e13 (by decide) (up_ne e10 (by decide) (up_ne e7 (by decide) (up_ne e4 (by decide) (up_ne e1 (by decide) h11)))))
  refine xcSv E hs hQ hml hl.1 (uCopyRow l g ad _ hD S13 11 (by decide) 15 (by decide) f11 3 4 0 (by decide) (by decide) (by decide) c_15) mX12_copyRow q1743 rfl ⟨by decide, by decide⟩ ⟨by decide, by decide⟩ (Nat.le_of_ble_eq_true rfl) rfl dX12_copyShore_61 (fun S16 H locs hp16 hQ => ?_)
  have e16 := hp16
  have u16 : S16 11 = .inl (g.2 0, 15, .inl (cpF f11 3 4 0 3)) := up_at e16 rfl
  refine lv_aload_n hx hb dX12_copyShore_64 rfl (lv_at hl 0 rfl) ?_
  have c_17 : S16 0 = .inr (12, [.int 0, .ref (ad 1), .ref (ad 2), .ref (ad 3), .ref (ad 4), .ref (ad 5), .int 0, .int 0, .int 0, .int 0, .int 0, .long 0, .int 0, .int (-1), .int 0, .int (-1), .ref (ad 6), .ref (ad 7), .ref (ad 8), .ref (ad 9), .ref (ad 10), .ref (ad 11), .ref (ad 12), .ref (ad 13), .ref (ad 14), .ref (ad 15), .int 0, .int 0, .ref (ad 16), .int 0, .int 0, .int 0, .int 0, .int 0, .ref (ad 17), .ref (ad 18), .int 0, .ref (ad 19)]) := (up_ne e16 (by decide) c_14)
  refine xget E hQ 0 (by decide) c_17 rfl 22 (by decide) q1490 rfl dX12_copyShore_65 ?_
  refine lv_sipush (v := 160) hx hb dX12_copyShore_68 (by decide) ?_
  refine lv_iload_n hx hb dX12_copyShore_71 rfl (lv_at hl 1 rfl) ?_
  refine lv_iload_n hx hb dX12_copyShore_72 rfl (lv_at hl 2 rfl) ?_
  have c_18 : S16 12 = .inl (g.2 0, 800, .inl f12) := (up_ne e16 (by decide) (up_ne e13 (by decide) (up_ne e10 (by decide) (up_ne e7 (by decide) (up_ne e4 (by decide) (up_ne e1 (by decide) h12))))))
  refine xcSv E hs hQ hml hl.1 (uCopyRow l g ad _ hD S16 12 (by decide) 800 (by decide) f12 160 4 0 (by decide) (by decide) (by decide) c_18) mX12_copyRow q1743 rfl ⟨by decide, by decide⟩ ⟨by decide, by decide⟩ (Nat.le_of_ble_eq_true rfl) rfl dX12_copyShore_73 (fun S19 H locs hp19 hQ => ?_)
  have e19 := hp19
  have u19 : S19 12 = .inl (g.2 0, 800, .inl (cpF f12 160 4 0 160)) := up_at e19 rfl
  have c_20 : S19 6 = .inl (g.2 0, 5, .inl (cpF f6 1 4 0 1)) := (up_ne e19 (by decide) (up_ne e16 (by decide) (up_ne e13 (by decide) (up_ne e10 (by decide) (up_ne e7 (by decide) (up_ne e4 (by decide) u1))))))
  have c_21 : S19 7 = .inl (g.2 0, 50, .inl (cpF f7 10 4 0 10)) := (up_ne e19 (by decide) (up_ne e16 (by decide) (up_ne e13 (by decide) (up_ne e10 (by decide) (up_ne e7 (by decide) u4)))))
  have c_22 : S19 8 = .inl (g.2 0, 120, .inl (cpF f8 24 4 0 24)) := (up_ne e19 (by decide) (up_ne e16 (by decide) (up_ne e13 (by decide) (up_ne e10 (by decide) u7))))
  have c_23 : S19 9 = .inl (g.2 0, 120, .inl (cpF f9 24 4 0 24)) := (up_ne e19 (by decide) (up_ne e16 (by decide) (up_ne e13 (by decide) u10)))
  have c_24 : S19 10 = .inl (g.2 0, 120, .inl (cpF f10 24 4 0 24)) := (up_ne e19 (by decide) (up_ne e16 (by decide) u13))
  have c_25 : S19 11 = .inl (g.2 0, 15, .inl (cpF f11 3 4 0 3)) := (up_ne e19 (by decide) u16)
  exact xrv E hr hlk hQ (⟨fun j hj => (up_ne e19 (fun h => hj (by subst h; decide)) (up_ne e16 (fun h => hj (by subst h; decide)) (up_ne e13 (fun h => hj (by subst h; decide)) (up_ne e10 (fun h => hj (by subst h; decide)) (up_ne e7 (fun h => hj (by subst h; decide)) (up_ne e4 (fun h => hj (by subst h; decide)) (up_ne e1 (fun h => hj (by subst h; decide)) rfl))))))), c_20, ⟨_, c_21⟩, ⟨_, c_22⟩, ⟨_, c_23⟩, ⟨_, c_24⟩, ⟨_, c_25⟩, ⟨_, u19⟩⟩) dX12_copyShore_76
set_option maxHeartbeats 4000000 in
set_option maxRecDepth 100000 in
theorem fX12_shore (l : Launch) (g : GG) (ad : Nat → Nat) (hD : Dj ad 20) (S : SS) (hX : ∀ i, i < 20 → S i = M0 g ad i) : Met l yX12_shore (wG (.code yX12_shore cX12_shore 1 (some .int))) (Rm 3) (XPre g ad 20 S [.ref (ad 0)]) (va_Qi (fun r _ => r = 0) (QB g ad 20) (FA ad 20)) 0 0 (FA ad 20) := by
  refine xmet cX12_shore "EbbWreckModel" (by decide) rfl (Nat.le_of_ble_eq_true rfl) (fun p e s m below meth c E hr hlk hml hQ ls hl => ?_)
  have hx := E.1
  have hb := E.2.1
  have hs : Sp ad 20 (FA ad 20) := Sp.fa hD
  have hl : lv_has ls 1 [(0, .ref (ad 0))] := hl
  refine lv_aload_n hx hb dX12_shore_0 rfl (lv_at hl 0 rfl) ?_
  refine lv_iconst (v := 0) hx hb dX12_shore_1 (by decide) ?_
  have c_1 : S 0 = .inr (12, [.int 0, .ref (ad 1), .ref (ad 2), .ref (ad 3), .ref (ad 4), .ref (ad 5), .int 0, .int 0, .int 0, .int 0, .int 0, .long 0, .int 0, .int 0, .int 0, .int (-1), .ref (ad 6), .ref (ad 7), .ref (ad 8), .ref (ad 9), .ref (ad 10), .ref (ad 11), .ref (ad 12), .ref (ad 13), .ref (ad 14), .ref (ad 15), .int 0, .int 0, .ref (ad 16), .int 0, .int 0, .int 0, .int 0, .int 0, .ref (ad 17), .ref (ad 18), .int 0, .ref (ad 19)]) := (hX 0 (by decide))
  refine xputi E hs hQ 0 (by decide) c_1 rfl 0 (by decide) q1468 rfl rfl (Nat.le_of_ble_eq_true rfl) dX12_shore_2 (fun H locs S2 e2 hQ => ?_)
  have hX : ∀ i, i < 20 → S2 i = M0 g ad i := same_up hX e2 rfl
  refine lv_aload_n hx hb dX12_shore_5 rfl (lv_at hl 0 rfl) ?_
  have c_3 : S2 6 = .inl (g.2 0, 5, .inl zf) := (hX 6 (by decide))
  have c_4 : S2 7 = .inl (g.2 0, 50, .inl zf) := (hX 7 (by decide))
  have c_5 : S2 8 = .inl (g.2 0, 120, .inl zf) := (hX 8 (by decide))
  have c_6 : S2 0 = .inr (12, [.int 0, .ref (ad 1), .ref (ad 2), .ref (ad 3), .ref (ad 4), .ref (ad 5), .int 0, .int 0, .int 0, .int 0, .int 0, .long 0, .int 0, .int 0, .int 0, .int (-1), .ref (ad 6), .ref (ad 7), .ref (ad 8), .ref (ad 9), .ref (ad 10), .ref (ad 11), .ref (ad 12), .ref (ad 13), .ref (ad 14), .ref (ad 15), .int 0, .int 0, .ref (ad 16), .int 0, .int 0, .int 0, .int 0, .int 0, .ref (ad 17), .ref (ad 18), .int 0, .ref (ad 19)]) := (hX 0 (by decide))
  refine xcVv E hs hQ hml hl.1 0 (clears_0 l g ad hD S2 zf zf zf c_6 c_3 c_4 c_5) mX12_clears q1625 (by decide) c_6 rfl rfl ⟨by decide, by decide⟩ ⟨by decide, by decide⟩ (Nat.le_of_ble_eq_true rfl) rfl dX12_shore_6 (fun S7 H locs hp7 hQ _ => ?_)
  obtain ⟨o7, v7_6, ⟨f7_7, v7_7⟩, ⟨f7_8, v7_8⟩⟩ := hp7
  refine lv_aload_n hx hb dX12_shore_9 rfl (lv_at hl 0 rfl) ?_
  have c_8 : S7 0 = .inr (12, [.int 0, .ref (ad 1), .ref (ad 2), .ref (ad 3), .ref (ad 4), .ref (ad 5), .int 0, .int 0, .int 0, .int 0, .int 0, .long 0, .int 0, .int 0, .int 0, .int (-1), .ref (ad 6), .ref (ad 7), .ref (ad 8), .ref (ad 9), .ref (ad 10), .ref (ad 11), .ref (ad 12), .ref (ad 13), .ref (ad 14), .ref (ad 15), .int 0, .int 0, .ref (ad 16), .int 0, .int 0, .int 0, .int 0, .int 0, .ref (ad 17), .ref (ad 18), .int 0, .ref (ad 19)]) := ((o7 0 (by decide)).trans c_6)
  refine xcVv E hs hQ hml hl.1 0 (begins_0 l g ad hD S7 c_8) mX12_begins q1633 (by decide) c_8 rfl rfl ⟨by decide, by decide⟩ ⟨by decide, by decide⟩ (Nat.le_of_ble_eq_true rfl) rfl dX12_shore_10 (fun S9 H locs hp9 hQ _ => ?_)
  obtain ⟨o9, v9_0⟩ := hp9
  refine lv_aload_n hx hb dX12_shore_13 rfl (lv_at hl 0 rfl) ?_
  refine xcVi E hs hQ hml hl.1 0 (isGood_0 l g ad hD S9 v9_0) mX12_isGood q1650 (by decide) v9_0 rfl rfl ⟨by decide, by decide⟩ ⟨by decide, by decide⟩ (Nat.le_of_ble_eq_true rfl) rfl dX12_shore_14 (fun r10 S10 H locs hp10 hQ _ => ?_)
  obtain ⟨o10, rfl⟩ := hp10
  refine lv_if_eq (tgt := 149) hx hb dX12_shore_17 (by decide) (fun k_11 => absurd k_11 (by decide)) (fun k_11 => ?_)
  refine lv_aload_n hx hb dX12_shore_20 rfl (lv_at hl 0 rfl) ?_
  have c_12 : S10 0 = .inr (12, [.int 0, .ref (ad 1), .ref (ad 2), .ref (ad 3), .ref (ad 4), .ref (ad 5), .int 0, .int 0, .int 0, .int 0, .int 0, .long 0, .int 0, .int (-1), .int 0, .int (-1), .ref (ad 6), .ref (ad 7), .ref (ad 8), .ref (ad 9), .ref (ad 10), .ref (ad 11), .ref (ad 12), .ref (ad 13), .ref (ad 14), .ref (ad 15), .int 0, .int 0, .ref (ad 16), .int 0, .int 0, .int 0, .int 0, .int 0, .ref (ad 17), .ref (ad 18), .int 0, .ref (ad 19)]) := ((o10 0 (by decide)).trans v9_0)
  refine xget E hQ 0 (by decide) c_12 rfl 8 (by decide) q1476 rfl dX12_shore_21 ?_
  refine lv_if_eq (tgt := 149) hx hb dX12_shore_24 (by decide) (fun k_13 => ?_) (fun k_13 => absurd k_13 (by decide))
  refine lv_aload_n hx hb dX12_shore_149 rfl (lv_at hl 0 rfl) ?_
  refine xcVv E hs hQ hml hl.1 0 (isOver_0 l g ad hD S10 c_12) mX12_isOver q1735 (by decide) c_12 rfl rfl ⟨by decide, by decide⟩ ⟨by decide, by decide⟩ (Nat.le_of_ble_eq_true rfl) rfl dX12_shore_150 (fun S14 H locs hp14 hQ _ => ?_)
  obtain ⟨o14, v14_0⟩ := hp14
  refine lv_aload_n hx hb dX12_shore_153 rfl (lv_at hl 0 rfl) ?_
  refine xget E hQ 0 (by decide) v14_0 rfl 12 (by decide) q1480 rfl dX12_shore_154 ?_
  refine lv_if_eq (tgt := 163) hx hb dX12_shore_157 (by decide) (fun k_15 => ?_) (fun k_15 => absurd k_15 (by decide))
  refine lv_aload_n hx hb dX12_shore_163 rfl (lv_at hl 0 rfl) ?_
  refine lv_iconst (v := 4) hx hb dX12_shore_164 (by decide) ?_
  refine lv_iconst (v := 0) hx hb dX12_shore_165 (by decide) ?_
  have c_16 : S14 6 = .inl (g.2 0, 5, .inl (upd zf (4 : Int32).toNatClampNeg 0)) := ((o14 6 (by decide)).trans ((o10 6 (by decide)).trans ((o9 6 (by decide)).trans v7_6)))
  have c_17 : S14 7 = .inl (g.2 0, 50, .inl f7_7) := ((o14 7 (by decide)).trans ((o10 7 (by decide)).trans ((o9 7 (by decide)).trans v7_7)))
  have c_18 : S14 8 = .inl (g.2 0, 120, .inl f7_8) := ((o14 8 (by decide)).trans ((o10 8 (by decide)).trans ((o9 8 (by decide)).trans v7_8)))
  have c_19 : S14 9 = .inl (g.2 0, 120, .inl zf) := ((o14 9 (by decide)).trans ((o10 9 (by decide)).trans ((o9 9 (by decide)).trans ((o7 9 (by decide)).trans (hX 9 (by decide))))))
  have c_20 : S14 10 = .inl (g.2 0, 120, .inl zf) := ((o14 10 (by decide)).trans ((o10 10 (by decide)).trans ((o9 10 (by decide)).trans ((o7 10 (by decide)).trans (hX 10 (by decide))))))
  have c_21 : S14 11 = .inl (g.2 0, 15, .inl zf) := ((o14 11 (by decide)).trans ((o10 11 (by decide)).trans ((o9 11 (by decide)).trans ((o7 11 (by decide)).trans (hX 11 (by decide))))))
  have c_22 : S14 12 = .inl (g.2 0, 800, .inl zf) := ((o14 12 (by decide)).trans ((o10 12 (by decide)).trans ((o9 12 (by decide)).trans ((o7 12 (by decide)).trans (hX 12 (by decide))))))
  refine xcVv E hs hQ hml hl.1 0 (copyShore_4_0b l g ad hD S14 (upd zf (4 : Int32).toNatClampNeg 0) f7_7 f7_8 zf zf zf zf v14_0 c_16 c_17 c_18 c_19 c_20 c_21 c_22) mX12_copyShore q1739 (by decide) v14_0 rfl rfl ⟨by decide, by decide⟩ ⟨by decide, by decide⟩ (Nat.le_of_ble_eq_true rfl) rfl dX12_shore_166 (fun S23 H locs hp23 hQ _ => ?_)
  obtain ⟨o23, v23_6, ⟨f23_7, v23_7⟩, ⟨f23_8, v23_8⟩, ⟨f23_9, v23_9⟩, ⟨f23_10, v23_10⟩, ⟨f23_11, v23_11⟩, ⟨f23_12, v23_12⟩⟩ := hp23
  refine lv_aload_n hx hb dX12_shore_169 rfl (lv_at hl 0 rfl) ?_
  have c_24 : S23 0 = .inr (12, [.int 0, .ref (ad 1), .ref (ad 2), .ref (ad 3), .ref (ad 4), .ref (ad 5), .int 0, .int 0, .int 0, .int 0, .int 0, .long 0, .int 0, .int (-1), .int 0, .int (-1), .ref (ad 6), .ref (ad 7), .ref (ad 8), .ref (ad 9), .ref (ad 10), .ref (ad 11), .ref (ad 12), .ref (ad 13), .ref (ad 14), .ref (ad 15), .int 0, .int 0, .ref (ad 16), .int 0, .int 0, .int 0, .int 0, .int 0, .ref (ad 17), .ref (ad 18), .int 0, .ref (ad 19)]) := ((o23 0 (by decide)).trans v14_0)
  refine xget E hQ 0 (by decide) c_24 rfl 16 (by decide) q1484 rfl dX12_shore_170 ?_
  refine lv_iconst (v := 0) hx hb dX12_shore_173 (by decide) ?_
  refine xiald E hQ 6 (by decide) v23_6 (vp_in_lit 0 5 (by decide)) dX12_shore_174 ?_
  refine lv_topi (fun z_25 ez_26 => ?_)
  exact xri E hr hlk hQ (ez_26.trans (by rfl)) dX12_shore_175
