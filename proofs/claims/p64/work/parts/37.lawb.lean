set_option maxHeartbeats 4000000 in
set_option maxRecDepth 100000 in
theorem law_case_0 {p : Program} {l : Launch} {e : Env} {s : State} {m : MethodId} {below : List Frame} {meth : Method} {c : Code} {b L : Nat} {xs : Nat → Int32} (C0 : lw_At p s m meth c b L xs) {g : GG} {tt : TT} {ad1 ad2 : Nat → Nat} (hK : KK g s) (hT : TW tt (fun q : Nat => s.heap.size ≤ q) s s.heap) (hD1 : Dj ad1 122) (hD2 : Dj ad2 20) (hA1 : ∀ i, i < 122 → (fun q : Nat => s.heap.size ≤ q) (ad1 i)) (hA2 : ∀ i, i < 20 → (fun q : Nat => s.heap.size ≤ q) (ad2 i)) (hne : ∀ i j, i < 122 → j < 20 → ad1 i ≠ ad2 j) {i : Nat} (hi : i + 6 ≤ L) (hL : L ≤ 3072) {S1 S2 : SS} (hG1 : GX g ad1 S1) (hG2 : GM g ad2 S2) (hR : RR S1 S2) {H : Heap} {locs : List Loc} (hP1 : PW g ad1 122 S1 H) (hP2 : PW g ad2 20 S2 H) (hS : va_S (fun q : Nat => s.heap.size ≤ q) s.heap H locs) {ls : Array Slot} (hl : lv_has ls 4 [(0, .ref b), (1, .ref (ad1 0)), (2, .ref (ad2 0)), (3, .int (nI i))]) (K : (∀ (S1 S2 : SS) (H : Heap) (locs : List Loc) (ls : Array Slot), GX g ad1 S1 → GM g ad2 S2 → RR S1 S2 → PW g ad1 122 S1 H → PW g ad2 20 S2 H → va_S (fun q : Nat => s.heap.size ≤ q) s.heap H locs → lv_has ls 4 [(0, .ref b), (1, .ref (ad1 0)), (2, .ref (ad2 0)), (3, .int (nI i))] → W p l e room_1 s m #[Value.ref b] below meth c H locs 142 12631 (lw_Z below #[Value.ref b] s) (F0 m 2159 ls []))) : W p l e room_1 s m #[Value.ref b] below meth c H locs 142 12631 (lw_Z below #[Value.ref b] s) (F0 m 300 ls []) := by
  obtain ⟨hx, hb, hr, hml, hown, hts, hX, hbl, hlocks, hgv⟩ := id C0
  have hbA : ¬ (fun q : Nat => s.heap.size ≤ q) b := Nat.not_le.mpr hbl
  have E : Ev p s m #[Value.ref b] c cL_law "EbbWreckLaw" g := ⟨hx, hb, hown, fun w h => hts w (List.mem_filter.mp h).1, hK⟩
  refine lv_aload_n hx hb dL_law_300 rfl (lv_at hl 1 rfl) ?_
  refine lv_aload_n hx hb dL_law_301 rfl (lv_at hl 0 rfl) ?_
  refine lv_iload_n hx hb dL_law_302 rfl (lv_at hl 3 rfl) ?_
  refine lv_iconst (v := 1) hx hb dL_law_303 (by decide) ?_
  refine lv_iadd hx hb dL_law_304 ?_
  refine sb_at (P := fun z => W _ _ _ _ _ _ _ _ _ _ _ _ _ _ _ (F0 _ _ _ (.int z :: _))) (nI_add i 1) ?_
  refine va_sld hx hb hX hbl hbA hS (vp_in_nI (show i + 1 < L by omega) (by omega)) dL_law_305 ?_
  refine sb_at (P := fun z => W _ _ _ _ _ _ _ _ _ _ _ _ _ _ _ (F0 _ _ _ (.int z :: _))) (show xs (nI (i + 1)).toNatClampNeg = xs (i + 1) by rw [nI_clamp (by omega)]) ?_
  refine lv_aload_n hx hb dL_law_306 rfl (lv_at hl 0 rfl) ?_
  refine lv_iload_n hx hb dL_law_307 rfl (lv_at hl 3 rfl) ?_
  refine lv_iconst (v := 2) hx hb dL_law_308 (by decide) ?_
  refine lv_iadd hx hb dL_law_309 ?_
  refine sb_at (P := fun z => W _ _ _ _ _ _ _ _ _ _ _ _ _ _ _ (F0 _ _ _ (.int z :: _))) (nI_add i 2) ?_
  refine va_sld hx hb hX hbl hbA hS (vp_in_nI (show i + 2 < L by omega) (by omega)) dL_law_310 ?_
  refine sb_at (P := fun z => W _ _ _ _ _ _ _ _ _ _ _ _ _ _ _ (F0 _ _ _ (.int z :: _))) (show xs (nI (i + 2)).toNatClampNeg = xs (i + 2) by rw [nI_clamp (by omega)]) ?_
  refine lv_aload_n hx hb dL_law_311 rfl (lv_at hl 0 rfl) ?_
  refine lv_iload_n hx hb dL_law_312 rfl (lv_at hl 3 rfl) ?_
  refine lv_iconst (v := 3) hx hb dL_law_313 (by decide) ?_
  refine lv_iadd hx hb dL_law_314 ?_
  refine sb_at (P := fun z => W _ _ _ _ _ _ _ _ _ _ _ _ _ _ _ (F0 _ _ _ (.int z :: _))) (nI_add i 3) ?_
  refine va_sld hx hb hX hbl hbA hS (vp_in_nI (show i + 3 < L by omega) (by omega)) dL_law_315 ?_
  refine sb_at (P := fun z => W _ _ _ _ _ _ _ _ _ _ _ _ _ _ _ (F0 _ _ _ (.int z :: _))) (show xs (nI (i + 3)).toNatClampNeg = xs (i + 3) by rw [nI_clamp (by omega)]) ?_
  refine lv_aload_n hx hb dL_law_316 rfl (lv_at hl 0 rfl) ?_
  refine lv_iload_n hx hb dL_law_317 rfl (lv_at hl 3 rfl) ?_
  refine lv_iconst (v := 4) hx hb dL_law_318 (by decide) ?_
  refine lv_iadd hx hb dL_law_319 ?_
  refine sb_at (P := fun z => W _ _ _ _ _ _ _ _ _ _ _ _ _ _ _ (F0 _ _ _ (.int z :: _))) (nI_add i 4) ?_
  refine va_sld hx hb hX hbl hbA hS (vp_in_nI (show i + 4 < L by omega) (by omega)) dL_law_320 ?_
  refine sb_at (P := fun z => W _ _ _ _ _ _ _ _ _ _ _ _ _ _ _ (F0 _ _ _ (.int z :: _))) (show xs (nI (i + 4)).toNatClampNeg = xs (i + 4) by rw [nI_clamp (by omega)]) ?_
  refine lv_aload_n hx hb dL_law_321 rfl (lv_at hl 0 rfl) ?_
  refine lv_iload_n hx hb dL_law_322 rfl (lv_at hl 3 rfl) ?_
  refine lv_iconst (v := 5) hx hb dL_law_323 (by decide) ?_
  refine lv_iadd hx hb dL_law_324 ?_
  refine sb_at (P := fun z => W _ _ _ _ _ _ _ _ _ _ _ _ _ _ _ (F0 _ _ _ (.int z :: _))) (nI_add i 5) ?_
  refine va_sld hx hb hX hbl hbA hS (vp_in_nI (show i + 5 < L by omega) (by omega)) dL_law_325 ?_
  refine sb_at (P := fun z => W _ _ _ _ _ _ _ _ _ _ _ _ _ _ _ (F0 _ _ _ (.int z :: _))) (show xs (nI (i + 5)).toNatClampNeg = xs (i + 5) by rw [nI_clamp (by omega)]) ?_
  obtain ⟨hI1, r2, r39, r57, r75, ar2, ar39, ar57, ar75⟩ := id hG1
  obtain ⟨_, _, _, cc1, _⟩ := invX_0 hI1
  refine xcVi E ⟨hD1, hA1⟩ (⟨hP1, hS⟩ : Hp g ad1 122 S1 (fun q : Nat => s.heap.size ≤ q) s.heap H locs) hml hl.1 0 (gX11_feed_0 l g ad1 hD1 S1 hI1 (xs (i + 1)) (xs (i + 2)) (xs (i + 3)) (xs (i + 4)) (xs (i + 5)) (by omega) (by omega) (by omega)) mX11_feed q562 (by decide) cc1 rfl rfl ⟨(Nat.le_of_ble_eq_true rfl), (Nat.le_of_ble_eq_true rfl)⟩ ⟨(Nat.le_of_ble_eq_true rfl), (Nat.le_of_ble_eq_true rfl)⟩ (Nat.le_of_ble_eq_true rfl) rfl dL_law_326 (fun r1 S3 H locs hp1 hQ1 hk1 => ?_)
  obtain ⟨hI3, o1, bb1⟩ := hp1
  have hG3 : GX g ad1 S3 := ⟨hI3, (by rw [o1 2 (by decide)]; exact r2), (by rw [o1 39 (by decide)]; exact r39), (by rw [o1 57 (by decide)]; exact r57), (by rw [o1 75 (by decide)]; exact r75), (ar_tr ar2 (o1 16 (by decide)) (o1 17 (by decide)) (o1 18 (by decide)) (o1 19 (by decide))), (ar_tr ar39 (o1 53 (by decide)) (o1 54 (by decide)) (o1 55 (by decide)) (o1 56 (by decide))), (ar_tr ar57 (o1 71 (by decide)) (o1 72 (by decide)) (o1 73 (by decide)) (o1 74 (by decide))), (ar_tr ar75 (o1 89 (by decide)) (o1 90 (by decide)) (o1 91 (by decide)) (o1 92 (by decide)))⟩
  have hP3 : PW g ad1 122 S3 H := hQ1.1
  have hS := hQ1.2
  have hP2 : PW g ad2 20 S2 H := pw_kept hP2 hk1 hne
  refine lv_pop hx hb dL_law_329 rfl ?_
  refine lv_aload_n hx hb dL_law_330 rfl (lv_at hl 2 rfl) ?_
  refine lv_aload_n hx hb dL_law_331 rfl (lv_at hl 0 rfl) ?_
  refine lv_iload_n hx hb dL_law_332 rfl (lv_at hl 3 rfl) ?_
  refine lv_iconst (v := 1) hx hb dL_law_333 (by decide) ?_
  refine lv_iadd hx hb dL_law_334 ?_
  refine sb_at (P := fun z => W _ _ _ _ _ _ _ _ _ _ _ _ _ _ _ (F0 _ _ _ (.int z :: _))) (nI_add i 1) ?_
  refine va_sld hx hb hX hbl hbA hS (vp_in_nI (show i + 1 < L by omega) (by omega)) dL_law_335 ?_
  refine sb_at (P := fun z => W _ _ _ _ _ _ _ _ _ _ _ _ _ _ _ (F0 _ _ _ (.int z :: _))) (show xs (nI (i + 1)).toNatClampNeg = xs (i + 1) by rw [nI_clamp (by omega)]) ?_
  refine lv_aload_n hx hb dL_law_336 rfl (lv_at hl 0 rfl) ?_
  refine lv_iload_n hx hb dL_law_337 rfl (lv_at hl 3 rfl) ?_
  refine lv_iconst (v := 2) hx hb dL_law_338 (by decide) ?_
  refine lv_iadd hx hb dL_law_339 ?_
  refine sb_at (P := fun z => W _ _ _ _ _ _ _ _ _ _ _ _ _ _ _ (F0 _ _ _ (.int z :: _))) (nI_add i 2) ?_
  refine va_sld hx hb hX hbl hbA hS (vp_in_nI (show i + 2 < L by omega) (by omega)) dL_law_340 ?_
  refine sb_at (P := fun z => W _ _ _ _ _ _ _ _ _ _ _ _ _ _ _ (F0 _ _ _ (.int z :: _))) (show xs (nI (i + 2)).toNatClampNeg = xs (i + 2) by rw [nI_clamp (by omega)]) ?_
  refine lv_aload_n hx hb dL_law_341 rfl (lv_at hl 0 rfl) ?_
  refine lv_iload_n hx hb dL_law_342 rfl (lv_at hl 3 rfl) ?_
  refine lv_iconst (v := 3) hx hb dL_law_343 (by decide) ?_
  refine lv_iadd hx hb dL_law_344 ?_
  refine sb_at (P := fun z => W _ _ _ _ _ _ _ _ _ _ _ _ _ _ _ (F0 _ _ _ (.int z :: _))) (nI_add i 3) ?_
  refine va_sld hx hb hX hbl hbA hS (vp_in_nI (show i + 3 < L by omega) (by omega)) dL_law_345 ?_
  refine sb_at (P := fun z => W _ _ _ _ _ _ _ _ _ _ _ _ _ _ _ (F0 _ _ _ (.int z :: _))) (show xs (nI (i + 3)).toNatClampNeg = xs (i + 3) by rw [nI_clamp (by omega)]) ?_
  refine lv_aload_n hx hb dL_law_346 rfl (lv_at hl 0 rfl) ?_
  refine lv_iload_n hx hb dL_law_347 rfl (lv_at hl 3 rfl) ?_
  refine lv_iconst (v := 4) hx hb dL_law_348 (by decide) ?_
  refine lv_iadd hx hb dL_law_349 ?_
  refine sb_at (P := fun z => W _ _ _ _ _ _ _ _ _ _ _ _ _ _ _ (F0 _ _ _ (.int z :: _))) (nI_add i 4) ?_
  refine va_sld hx hb hX hbl hbA hS (vp_in_nI (show i + 4 < L by omega) (by omega)) dL_law_350 ?_
  refine sb_at (P := fun z => W _ _ _ _ _ _ _ _ _ _ _ _ _ _ _ (F0 _ _ _ (.int z :: _))) (show xs (nI (i + 4)).toNatClampNeg = xs (i + 4) by rw [nI_clamp (by omega)]) ?_
  refine lv_aload_n hx hb dL_law_351 rfl (lv_at hl 0 rfl) ?_
  refine lv_iload_n hx hb dL_law_352 rfl (lv_at hl 3 rfl) ?_
  refine lv_iconst (v := 5) hx hb dL_law_353 (by decide) ?_
  refine lv_iadd hx hb dL_law_354 ?_
  refine sb_at (P := fun z => W _ _ _ _ _ _ _ _ _ _ _ _ _ _ _ (F0 _ _ _ (.int z :: _))) (nI_add i 5) ?_
  refine va_sld hx hb hX hbl hbA hS (vp_in_nI (show i + 5 < L by omega) (by omega)) dL_law_355 ?_
  refine sb_at (P := fun z => W _ _ _ _ _ _ _ _ _ _ _ _ _ _ _ (F0 _ _ _ (.int z :: _))) (show xs (nI (i + 5)).toNatClampNeg = xs (i + 5) by rw [nI_clamp (by omega)]) ?_
  obtain ⟨hI2, t0, t1, t2, t3, at0, at1, at2, at3, ht0, ht1, ht2, ht3⟩ := id hG2
  obtain ⟨_, _, _, _, _, _, _, _, _, _, _, _, _, _, _, _, _, _, _, cc2, _, _, _, _, _, _, _, _, _⟩ := invM_0 hI2
  refine xcVi E ⟨hD2, hA2⟩ (⟨hP2, hS⟩ : Hp g ad2 20 S2 (fun q : Nat => s.heap.size ≤ q) s.heap H locs) hml hl.1 0 (gX12_feed_0 l g ad2 hD2 S2 hI2 (xs (i + 1)) (xs (i + 2)) (xs (i + 3)) (xs (i + 4)) (xs (i + 5)) (by omega) (by omega) (by omega) (by omega) (by omega)) mX12_feed q1605 (by decide) cc2 rfl rfl ⟨(Nat.le_of_ble_eq_true rfl), (Nat.le_of_ble_eq_true rfl)⟩ ⟨(Nat.le_of_ble_eq_true rfl), (Nat.le_of_ble_eq_true rfl)⟩ (Nat.le_of_ble_eq_true rfl) rfl dL_law_356 (fun r2 S4 H locs hp2 hQ2 hk2 => ?_)
  obtain ⟨hI4, o2, bb2⟩ := hp2
  have hG4 : GM g ad2 S4 := ⟨hI4, (by rw [o2 6 (by decide), o2 7 (by decide)]; exact t0), (by rw [o2 6 (by decide), o2 7 (by decide)]; exact t1), (by rw [o2 6 (by decide), o2 7 (by decide)]; exact t2), (by rw [o2 6 (by decide), o2 7 (by decide)]; exact t3), (at_tr at0 (o2 7 (by decide)) (o2 12 (by decide))), (at_tr at1 (o2 7 (by decide)) (o2 12 (by decide))), (at_tr at2 (o2 7 (by decide)) (o2 12 (by decide))), (at_tr at3 (o2 7 (by decide)) (o2 12 (by decide))), (ht_tr ht0 (o2 7 (by decide)) (o2 9 (by decide))), (ht_tr ht1 (o2 7 (by decide)) (o2 9 (by decide))), (ht_tr ht2 (o2 7 (by decide)) (o2 9 (by decide))), (ht_tr ht3 (o2 7 (by decide)) (o2 9 (by decide)))⟩
  have hS := hQ2.2
  have hP4 : PW g ad2 20 S4 H := hQ2.1
  have hP3 : PW g ad1 122 S3 H := pw_kept hP3 hk2 (fun i j hi hj e => hne j i hj hi e.symm)
  have hR4 : RR S3 S4 := rr_eq hR (o1 93 (by decide)) (o1 117 (by decide)) (o1 118 (by decide)) (o2 13 (by decide)) (o2 1 (by decide)) (o2 2 (by decide))
  refine lv_pop hx hb dL_law_359 rfl ?_
  refine lv_goto (tgt := 2159) hx hb dL_law_360 (by decide) ?_
  exact K S3 S4 H locs ls hG3 hG4 hR4 hP3 hP4 hS hl
set_option maxHeartbeats 4000000 in
set_option maxRecDepth 100000 in
theorem law_case_1 {p : Program} {l : Launch} {e : Env} {s : State} {m : MethodId} {below : List Frame} {meth : Method} {c : Code} {b L : Nat} {xs : Nat → Int32} (C0 : lw_At p s m meth c b L xs) {g : GG} {tt : TT} {ad1 ad2 : Nat → Nat} (hK : KK g s) (hT : TW tt (fun q : Nat => s.heap.size ≤ q) s s.heap) (hD1 : Dj ad1 122) (hD2 : Dj ad2 20) (hA1 : ∀ i, i < 122 → (fun q : Nat => s.heap.size ≤ q) (ad1 i)) (hA2 : ∀ i, i < 20 → (fun q : Nat => s.heap.size ≤ q) (ad2 i)) (hne : ∀ i j, i < 122 → j < 20 → ad1 i ≠ ad2 j) {i : Nat} (hi : i + 6 ≤ L) (hL : L ≤ 3072) {S1 S2 : SS} (hG1 : GX g ad1 S1) (hG2 : GM g ad2 S2) (hR : RR S1 S2) {H : Heap} {locs : List Loc} (hP1 : PW g ad1 122 S1 H) (hP2 : PW g ad2 20 S2 H) (hS : va_S (fun q : Nat => s.heap.size ≤ q) s.heap H locs) {ls : Array Slot} (hl : lv_has ls 4 [(0, .ref b), (1, .ref (ad1 0)), (2, .ref (ad2 0)), (3, .int (nI i))]) (K : (∀ (S1 S2 : SS) (H : Heap) (locs : List Loc) (ls : Array Slot), GX g ad1 S1 → GM g ad2 S2 → RR S1 S2 → PW g ad1 122 S1 H → PW g ad2 20 S2 H → va_S (fun q : Nat => s.heap.size ≤ q) s.heap H locs → lv_has ls 4 [(0, .ref b), (1, .ref (ad1 0)), (2, .ref (ad2 0)), (3, .int (nI i))] → W p l e room_1 s m #[Value.ref b] below meth c H locs 142 12631 (lw_Z below #[Value.ref b] s) (F0 m 2159 ls []))) : W p l e room_1 s m #[Value.ref b] below meth c H locs 142 12631 (lw_Z below #[Value.ref b] s) (F0 m 363 ls []) := by
  obtain ⟨hx, hb, hr, hml, hown, hts, hX, hbl, hlocks, hgv⟩ := id C0
  have hbA : ¬ (fun q : Nat => s.heap.size ≤ q) b := Nat.not_le.mpr hbl
  have E : Ev p s m #[Value.ref b] c cL_law "EbbWreckLaw" g := ⟨hx, hb, hown, fun w h => hts w (List.mem_filter.mp h).1, hK⟩
  refine lv_aload_n hx hb dL_law_363 rfl (lv_at hl 1 rfl) ?_
  refine lv_aload_n hx hb dL_law_364 rfl (lv_at hl 0 rfl) ?_
  refine lv_iload_n hx hb dL_law_365 rfl (lv_at hl 3 rfl) ?_
  refine lv_iconst (v := 1) hx hb dL_law_366 (by decide) ?_
  refine lv_iadd hx hb dL_law_367 ?_
  refine sb_at (P := fun z => W _ _ _ _ _ _ _ _ _ _ _ _ _ _ _ (F0 _ _ _ (.int z :: _))) (nI_add i 1) ?_
  refine va_sld hx hb hX hbl hbA hS (vp_in_nI (show i + 1 < L by omega) (by omega)) dL_law_368 ?_
  refine sb_at (P := fun z => W _ _ _ _ _ _ _ _ _ _ _ _ _ _ _ (F0 _ _ _ (.int z :: _))) (show xs (nI (i + 1)).toNatClampNeg = xs (i + 1) by rw [nI_clamp (by omega)]) ?_
  obtain ⟨hI1, r2, r39, r57, r75, ar2, ar39, ar57, ar75⟩ := id hG1
  obtain ⟨_, _, _, cc1, _⟩ := invX_0 hI1
  refine xcVi E ⟨hD1, hA1⟩ (⟨hP1, hS⟩ : Hp g ad1 122 S1 (fun q : Nat => s.heap.size ≤ q) s.heap H locs) hml hl.1 0 (gX11_end_0 l g ad1 hD1 S1 hI1 (xs (i + 1)) (by omega) (by omega) (by omega)) mX11_end q570 (by decide) cc1 rfl rfl ⟨(Nat.le_of_ble_eq_true rfl), (Nat.le_of_ble_eq_true rfl)⟩ ⟨(Nat.le_of_ble_eq_true rfl), (Nat.le_of_ble_eq_true rfl)⟩ (Nat.le_of_ble_eq_true rfl) rfl dL_law_369 (fun r1 S3 H locs hp1 hQ1 hk1 => ?_)
  obtain ⟨hI3, o1, bb1⟩ := hp1
  have hG3 : GX g ad1 S3 := ⟨hI3, (by rw [o1 2 (by decide)]; exact r2), (by rw [o1 39 (by decide)]; exact r39), (by rw [o1 57 (by decide)]; exact r57), (by rw [o1 75 (by decide)]; exact r75), (ar_tr ar2 (o1 16 (by decide)) (o1 17 (by decide)) (o1 18 (by decide)) (o1 19 (by decide))), (ar_tr ar39 (o1 53 (by decide)) (o1 54 (by decide)) (o1 55 (by decide)) (o1 56 (by decide))), (ar_tr ar57 (o1 71 (by decide)) (o1 72 (by decide)) (o1 73 (by decide)) (o1 74 (by decide))), (ar_tr ar75 (o1 89 (by decide)) (o1 90 (by decide)) (o1 91 (by decide)) (o1 92 (by decide)))⟩
  have hP3 : PW g ad1 122 S3 H := hQ1.1
  have hS := hQ1.2
  have hP2 : PW g ad2 20 S2 H := pw_kept hP2 hk1 hne
  refine lv_pop hx hb dL_law_372 rfl ?_
  refine lv_aload_n hx hb dL_law_373 rfl (lv_at hl 2 rfl) ?_
  refine lv_aload_n hx hb dL_law_374 rfl (lv_at hl 0 rfl) ?_
  refine lv_iload_n hx hb dL_law_375 rfl (lv_at hl 3 rfl) ?_
  refine lv_iconst (v := 1) hx hb dL_law_376 (by decide) ?_
  refine lv_iadd hx hb dL_law_377 ?_
  refine sb_at (P := fun z => W _ _ _ _ _ _ _ _ _ _ _ _ _ _ _ (F0 _ _ _ (.int z :: _))) (nI_add i 1) ?_
  refine va_sld hx hb hX hbl hbA hS (vp_in_nI (show i + 1 < L by omega) (by omega)) dL_law_378 ?_
  refine sb_at (P := fun z => W _ _ _ _ _ _ _ _ _ _ _ _ _ _ _ (F0 _ _ _ (.int z :: _))) (show xs (nI (i + 1)).toNatClampNeg = xs (i + 1) by rw [nI_clamp (by omega)]) ?_
  obtain ⟨hI2, t0, t1, t2, t3, at0, at1, at2, at3, ht0, ht1, ht2, ht3⟩ := id hG2
  obtain ⟨_, _, _, _, _, _, _, _, _, _, _, _, _, _, _, _, _, _, _, cc2, _, _, _, _, _, _, _, _, _⟩ := invM_0 hI2
  refine xcVi E ⟨hD2, hA2⟩ (⟨hP2, hS⟩ : Hp g ad2 20 S2 (fun q : Nat => s.heap.size ≤ q) s.heap H locs) hml hl.1 0 (gX12_end_0 l g ad2 hD2 S2 hI2 (xs (i + 1)) (by omega) (by omega) (by omega) (by omega) (by omega)) mX12_end q1613 (by decide) cc2 rfl rfl ⟨(Nat.le_of_ble_eq_true rfl), (Nat.le_of_ble_eq_true rfl)⟩ ⟨(Nat.le_of_ble_eq_true rfl), (Nat.le_of_ble_eq_true rfl)⟩ (Nat.le_of_ble_eq_true rfl) rfl dL_law_379 (fun r2 S4 H locs hp2 hQ2 hk2 => ?_)
  obtain ⟨hI4, o2, bb2⟩ := hp2
  have hG4 : GM g ad2 S4 := ⟨hI4, (by rw [o2 6 (by decide), o2 7 (by decide)]; exact t0), (by rw [o2 6 (by decide), o2 7 (by decide)]; exact t1), (by rw [o2 6 (by decide), o2 7 (by decide)]; exact t2), (by rw [o2 6 (by decide), o2 7 (by decide)]; exact t3), (at_tr at0 (o2 7 (by decide)) (o2 12 (by decide))), (at_tr at1 (o2 7 (by decide)) (o2 12 (by decide))), (at_tr at2 (o2 7 (by decide)) (o2 12 (by decide))), (at_tr at3 (o2 7 (by decide)) (o2 12 (by decide))), (ht_tr ht0 (o2 7 (by decide)) (o2 9 (by decide))), (ht_tr ht1 (o2 7 (by decide)) (o2 9 (by decide))), (ht_tr ht2 (o2 7 (by decide)) (o2 9 (by decide))), (ht_tr ht3 (o2 7 (by decide)) (o2 9 (by decide)))⟩
  have hS := hQ2.2
  have hP4 : PW g ad2 20 S4 H := hQ2.1
  have hP3 : PW g ad1 122 S3 H := pw_kept hP3 hk2 (fun i j hi hj e => hne j i hj hi e.symm)
  have hR4 : RR S3 S4 := rr_eq hR (o1 93 (by decide)) (o1 117 (by decide)) (o1 118 (by decide)) (o2 13 (by decide)) (o2 1 (by decide)) (o2 2 (by decide))
  refine lv_pop hx hb dL_law_382 rfl ?_
  refine lv_goto (tgt := 2159) hx hb dL_law_383 (by decide) ?_
  exact K S3 S4 H locs ls hG3 hG4 hR4 hP3 hP4 hS hl
set_option maxHeartbeats 4000000 in
set_option maxRecDepth 100000 in
theorem law_case_2 {p : Program} {l : Launch} {e : Env} {s : State} {m : MethodId} {below : List Frame} {meth : Method} {c : Code} {b L : Nat} {xs : Nat → Int32} (C0 : lw_At p s m meth c b L xs) {g : GG} {tt : TT} {ad1 ad2 : Nat → Nat} (hK : KK g s) (hT : TW tt (fun q : Nat => s.heap.size ≤ q) s s.heap) (hD1 : Dj ad1 122) (hD2 : Dj ad2 20) (hA1 : ∀ i, i < 122 → (fun q : Nat => s.heap.size ≤ q) (ad1 i)) (hA2 : ∀ i, i < 20 → (fun q : Nat => s.heap.size ≤ q) (ad2 i)) (hne : ∀ i j, i < 122 → j < 20 → ad1 i ≠ ad2 j) {i : Nat} (hi : i + 6 ≤ L) (hL : L ≤ 3072) {S1 S2 : SS} (hG1 : GX g ad1 S1) (hG2 : GM g ad2 S2) (hR : RR S1 S2) {H : Heap} {locs : List Loc} (hP1 : PW g ad1 122 S1 H) (hP2 : PW g ad2 20 S2 H) (hS : va_S (fun q : Nat => s.heap.size ≤ q) s.heap H locs) {ls : Array Slot} (hl : lv_has ls 4 [(0, .ref b), (1, .ref (ad1 0)), (2, .ref (ad2 0)), (3, .int (nI i))]) (K : (∀ (S1 S2 : SS) (H : Heap) (locs : List Loc) (ls : Array Slot), GX g ad1 S1 → GM g ad2 S2 → RR S1 S2 → PW g ad1 122 S1 H → PW g ad2 20 S2 H → va_S (fun q : Nat => s.heap.size ≤ q) s.heap H locs → lv_has ls 4 [(0, .ref b), (1, .ref (ad1 0)), (2, .ref (ad2 0)), (3, .int (nI i))] → W p l e room_1 s m #[Value.ref b] below meth c H locs 142 12631 (lw_Z below #[Value.ref b] s) (F0 m 2159 ls []))) : W p l e room_1 s m #[Value.ref b] below meth c H locs 142 12631 (lw_Z below #[Value.ref b] s) (F0 m 386 ls []) := by
  obtain ⟨hx, hb, hr, hml, hown, hts, hX, hbl, hlocks, hgv⟩ := id C0
  have hbA : ¬ (fun q : Nat => s.heap.size ≤ q) b := Nat.not_le.mpr hbl
  have E : Ev p s m #[Value.ref b] c cL_law "EbbWreckLaw" g := ⟨hx, hb, hown, fun w h => hts w (List.mem_filter.mp h).1, hK⟩
  refine lv_aload_n hx hb dL_law_386 rfl (lv_at hl 1 rfl) ?_
  obtain ⟨hI1, r2, r39, r57, r75, ar2, ar39, ar57, ar75⟩ := id hG1
  obtain ⟨_, _, _, cc1, _⟩ := invX_0 hI1
  refine xcViL E ⟨hD1, hA1⟩ (⟨hP1, hS⟩ : Hp g ad1 122 S1 (fun q : Nat => s.heap.size ≤ q) s.heap H locs) hml hl.1 hT 0 (gX11_shore_0 l g tt ad1 hD1 S1 hI1 (by omega) (by omega) (by omega) ar2) mX11_shore q574 (by decide) cc1 rfl rfl ⟨(Nat.le_of_ble_eq_true rfl), (Nat.le_of_ble_eq_true rfl)⟩ ⟨(Nat.le_of_ble_eq_true rfl), (Nat.le_of_ble_eq_true rfl)⟩ (Nat.le_of_ble_eq_true rfl) rfl dL_law_387 (fun r1 S3 H locs hp1 hQ1 hk1 => ?_)
  obtain ⟨hI3, o1, bb1, g1_0, g1_1, g1_2, u1_0⟩ := hp1
  have hG3 : GX g ad1 S3 := ⟨hI3, ⟨by omega, by omega, by omega⟩, (by rw [o1 39 (by decide)]; exact r39), (by rw [o1 57 (by decide)]; exact r57), (by rw [o1 75 (by decide)]; exact r75), u1_0, (ar_tr ar39 (o1 53 (by decide)) (o1 54 (by decide)) (o1 55 (by decide)) (o1 56 (by decide))), (ar_tr ar57 (o1 71 (by decide)) (o1 72 (by decide)) (o1 73 (by decide)) (o1 74 (by decide))), (ar_tr ar75 (o1 89 (by decide)) (o1 90 (by decide)) (o1 91 (by decide)) (o1 92 (by decide)))⟩
  have hP3 : PW g ad1 122 S3 H := hQ1.1
  have hS := hQ1.2
  have hP2 : PW g ad2 20 S2 H := pw_kept hP2 hk1 hne
  refine lv_pop hx hb dL_law_390 rfl ?_
  refine lv_aload_n hx hb dL_law_391 rfl (lv_at hl 2 rfl) ?_
  obtain ⟨hI2, t0, t1, t2, t3, at0, at1, at2, at3, ht0, ht1, ht2, ht3⟩ := id hG2
  have h9 := gm9 hI2
  obtain ⟨_, _, _, _, _, _, _, _, _, _, _, _, _, _, _, _, _, _, _, cc2, _, _, _, _, _, _, _, _, _⟩ := invM_0 hI2
  refine xcVi E ⟨hD2, hA2⟩ (⟨hP2, hS⟩ : Hp g ad2 20 S2 (fun q : Nat => s.heap.size ≤ q) s.heap H locs) hml hl.1 0 (gX12_shore_0 l g ad2 hD2 S2 hI2 (by omega) (by omega) (by omega) (by omega) (by omega) (by omega) (by omega) (by omega) (by omega) (by omega) (by omega) (by omega) (by omega) (by omega) (by omega) (by omega) (by omega) (by omega) (by omega) (by omega) (by omega) (by omega) (by omega) (by omega) at0 at1 at2 at3 ht0 ht1 ht2 ht3) mX12_shore q1621 (by decide) cc2 rfl rfl ⟨(Nat.le_of_ble_eq_true rfl), (Nat.le_of_ble_eq_true rfl)⟩ ⟨(Nat.le_of_ble_eq_true rfl), (Nat.le_of_ble_eq_true rfl)⟩ (Nat.le_of_ble_eq_true rfl) rfl dL_law_392 (fun r2 S4 H locs hp2 hQ2 hk2 => ?_)
  obtain ⟨hI4, o2, bb2, g2_0, g2_1, g2_2, g2_3, g2_4, g2_5, g2_6, g2_7, g2_8, g2_9, g2_10, g2_11, g2_12, g2_13, g2_14, g2_15, g2_16, g2_17, g2_18, g2_19, u2_0, u2_1, u2_2, u2_3, u2_4, u2_5, u2_6, u2_7⟩ := hp2
  have hG4 : GM g ad2 S4 := ⟨hI4, ⟨by omega, by omega, by omega, by omega, by omega⟩, ⟨by omega, by omega, by omega, by omega, by omega⟩, ⟨by omega, by omega, by omega, by omega, by omega⟩, ⟨by omega, by omega, by omega, by omega, by omega⟩, u2_0, u2_1, u2_2, u2_3, u2_4, u2_5, u2_6, u2_7⟩
  have hS := hQ2.2
  have hP4 : PW g ad2 20 S4 H := hQ2.1
  have hP3 : PW g ad1 122 S3 H := pw_kept hP3 hk2 (fun i j hi hj e => hne j i hj hi e.symm)
  have hR4 : RR S3 S4 := rr_eq hR (o1 93 (by decide)) (o1 117 (by decide)) (o1 118 (by decide)) (o2 13 (by decide)) (o2 1 (by decide)) (o2 2 (by decide))
  refine lv_pop hx hb dL_law_395 rfl ?_
  refine lv_goto (tgt := 2159) hx hb dL_law_396 (by decide) ?_
  exact K S3 S4 H locs ls hG3 hG4 hR4 hP3 hP4 hS hl
set_option maxHeartbeats 4000000 in
set_option maxRecDepth 100000 in
theorem law_case_3 {p : Program} {l : Launch} {e : Env} {s : State} {m : MethodId} {below : List Frame} {meth : Method} {c : Code} {b L : Nat} {xs : Nat → Int32} (C0 : lw_At p s m meth c b L xs) {g : GG} {tt : TT} {ad1 ad2 : Nat → Nat} (hK : KK g s) (hT : TW tt (fun q : Nat => s.heap.size ≤ q) s s.heap) (hD1 : Dj ad1 122) (hD2 : Dj ad2 20) (hA1 : ∀ i, i < 122 → (fun q : Nat => s.heap.size ≤ q) (ad1 i)) (hA2 : ∀ i, i < 20 → (fun q : Nat => s.heap.size ≤ q) (ad2 i)) (hne : ∀ i j, i < 122 → j < 20 → ad1 i ≠ ad2 j) {i : Nat} (hi : i + 6 ≤ L) (hL : L ≤ 3072) {S1 S2 : SS} (hG1 : GX g ad1 S1) (hG2 : GM g ad2 S2) (hR : RR S1 S2) {H : Heap} {locs : List Loc} (hP1 : PW g ad1 122 S1 H) (hP2 : PW g ad2 20 S2 H) (hS : va_S (fun q : Nat => s.heap.size ≤ q) s.heap H locs) {ls : Array Slot} (hl : lv_has ls 4 [(0, .ref b), (1, .ref (ad1 0)), (2, .ref (ad2 0)), (3, .int (nI i))]) (K : (∀ (S1 S2 : SS) (H : Heap) (locs : List Loc) (ls : Array Slot), GX g ad1 S1 → GM g ad2 S2 → RR S1 S2 → PW g ad1 122 S1 H → PW g ad2 20 S2 H → va_S (fun q : Nat => s.heap.size ≤ q) s.heap H locs → lv_has ls 4 [(0, .ref b), (1, .ref (ad1 0)), (2, .ref (ad2 0)), (3, .int (nI i))] → W p l e room_1 s m #[Value.ref b] below meth c H locs 142 12631 (lw_Z below #[Value.ref b] s) (F0 m 2159 ls []))) : W p l e room_1 s m #[Value.ref b] below meth c H locs 142 12631 (lw_Z below #[Value.ref b] s) (F0 m 399 ls []) := by
  obtain ⟨hx, hb, hr, hml, hown, hts, hX, hbl, hlocks, hgv⟩ := id C0
  have hbA : ¬ (fun q : Nat => s.heap.size ≤ q) b := Nat.not_le.mpr hbl
  have E : Ev p s m #[Value.ref b] c cL_law "EbbWreckLaw" g := ⟨hx, hb, hown, fun w h => hts w (List.mem_filter.mp h).1, hK⟩
  refine lv_aload_n hx hb dL_law_399 rfl (lv_at hl 1 rfl) ?_
  refine lv_aload_n hx hb dL_law_400 rfl (lv_at hl 0 rfl) ?_
  refine lv_iload_n hx hb dL_law_401 rfl (lv_at hl 3 rfl) ?_
  refine lv_iconst (v := 1) hx hb dL_law_402 (by decide) ?_
  refine lv_iadd hx hb dL_law_403 ?_
  refine sb_at (P := fun z => W _ _ _ _ _ _ _ _ _ _ _ _ _ _ _ (F0 _ _ _ (.int z :: _))) (nI_add i 1) ?_
  refine va_sld hx hb hX hbl hbA hS (vp_in_nI (show i + 1 < L by omega) (by omega)) dL_law_404 ?_
  refine sb_at (P := fun z => W _ _ _ _ _ _ _ _ _ _ _ _ _ _ _ (F0 _ _ _ (.int z :: _))) (show xs (nI (i + 1)).toNatClampNeg = xs (i + 1) by rw [nI_clamp (by omega)]) ?_
  obtain ⟨hI1, r2, r39, r57, r75, ar2, ar39, ar57, ar75⟩ := id hG1
  obtain ⟨_, _, _, cc1, _⟩ := invX_0 hI1
  refine xcVi E ⟨hD1, hA1⟩ (⟨hP1, hS⟩ : Hp g ad1 122 S1 (fun q : Nat => s.heap.size ≤ q) s.heap H locs) hml hl.1 0 (gX11_fault_0 l g ad1 hD1 S1 hI1 (xs (i + 1)) (by omega) (by omega) (by omega)) mX11_fault q815 (by decide) cc1 rfl rfl ⟨(Nat.le_of_ble_eq_true rfl), (Nat.le_of_ble_eq_true rfl)⟩ ⟨(Nat.le_of_ble_eq_true rfl), (Nat.le_of_ble_eq_true rfl)⟩ (Nat.le_of_ble_eq_true rfl) rfl dL_law_405 (fun r1 S3 H locs hp1 hQ1 hk1 => ?_)
  subst hp1
  have hG3 := hG1
  have hP3 : PW g ad1 122 S1 H := hQ1.1
  have hS := hQ1.2
  have hP2 : PW g ad2 20 S2 H := pw_kept hP2 hk1 hne
  refine lv_pop hx hb dL_law_408 rfl ?_
  refine lv_aload_n hx hb dL_law_409 rfl (lv_at hl 2 rfl) ?_
  refine lv_aload_n hx hb dL_law_410 rfl (lv_at hl 0 rfl) ?_
  refine lv_iload_n hx hb dL_law_411 rfl (lv_at hl 3 rfl) ?_
  refine lv_iconst (v := 1) hx hb dL_law_412 (by decide) ?_
  refine lv_iadd hx hb dL_law_413 ?_
  refine sb_at (P := fun z => W _ _ _ _ _ _ _ _ _ _ _ _ _ _ _ (F0 _ _ _ (.int z :: _))) (nI_add i 1) ?_
  refine va_sld hx hb hX hbl hbA hS (vp_in_nI (show i + 1 < L by omega) (by omega)) dL_law_414 ?_
  refine sb_at (P := fun z => W _ _ _ _ _ _ _ _ _ _ _ _ _ _ _ (F0 _ _ _ (.int z :: _))) (show xs (nI (i + 1)).toNatClampNeg = xs (i + 1) by rw [nI_clamp (by omega)]) ?_
  obtain ⟨hI2, t0, t1, t2, t3, at0, at1, at2, at3, ht0, ht1, ht2, ht3⟩ := id hG2
  obtain ⟨_, _, _, _, _, _, _, _, _, _, _, _, _, _, _, _, _, _, _, cc2, _, _, _, _, _, _, _, _, _⟩ := invM_0 hI2
  refine xcVi E ⟨hD2, hA2⟩ (⟨hP2, hS⟩ : Hp g ad2 20 S2 (fun q : Nat => s.heap.size ≤ q) s.heap H locs) hml hl.1 0 (gX12_fault_0 l g ad2 hD2 S2 hI2 (xs (i + 1)) (by omega) (by omega) (by omega) (by omega) (by omega)) mX12_fault q1617 (by decide) cc2 rfl rfl ⟨(Nat.le_of_ble_eq_true rfl), (Nat.le_of_ble_eq_true rfl)⟩ ⟨(Nat.le_of_ble_eq_true rfl), (Nat.le_of_ble_eq_true rfl)⟩ (Nat.le_of_ble_eq_true rfl) rfl dL_law_415 (fun r2 S4 H locs hp2 hQ2 hk2 => ?_)
  obtain ⟨hI4, o2⟩ := hp2
  have hG4 : GM g ad2 S4 := ⟨hI4, (by rw [o2 6 (by decide), o2 7 (by decide)]; exact t0), (by rw [o2 6 (by decide), o2 7 (by decide)]; exact t1), (by rw [o2 6 (by decide), o2 7 (by decide)]; exact t2), (by rw [o2 6 (by decide), o2 7 (by decide)]; exact t3), (at_tr at0 (o2 7 (by decide)) (o2 12 (by decide))), (at_tr at1 (o2 7 (by decide)) (o2 12 (by decide))), (at_tr at2 (o2 7 (by decide)) (o2 12 (by decide))), (at_tr at3 (o2 7 (by decide)) (o2 12 (by decide))), (ht_tr ht0 (o2 7 (by decide)) (o2 9 (by decide))), (ht_tr ht1 (o2 7 (by decide)) (o2 9 (by decide))), (ht_tr ht2 (o2 7 (by decide)) (o2 9 (by decide))), (ht_tr ht3 (o2 7 (by decide)) (o2 9 (by decide)))⟩
  have hS := hQ2.2
  have hP4 : PW g ad2 20 S4 H := hQ2.1
  have hP3 : PW g ad1 122 S1 H := pw_kept hP3 hk2 (fun i j hi hj e => hne j i hj hi e.symm)
  have hR4 : RR S1 S4 := rr_eq hR rfl rfl rfl (o2 13 (by decide)) (o2 1 (by decide)) (o2 2 (by decide))
  refine lv_pop hx hb dL_law_418 rfl ?_
  refine lv_goto (tgt := 2159) hx hb dL_law_419 (by decide) ?_
  exact K S1 S4 H locs ls hG3 hG4 hR4 hP3 hP4 hS hl
set_option maxHeartbeats 4000000 in
set_option maxRecDepth 100000 in
theorem law_case_4 {p : Program} {l : Launch} {e : Env} {s : State} {m : MethodId} {below : List Frame} {meth : Method} {c : Code} {b L : Nat} {xs : Nat → Int32} (C0 : lw_At p s m meth c b L xs) {g : GG} {tt : TT} {ad1 ad2 : Nat → Nat} (hK : KK g s) (hT : TW tt (fun q : Nat => s.heap.size ≤ q) s s.heap) (hD1 : Dj ad1 122) (hD2 : Dj ad2 20) (hA1 : ∀ i, i < 122 → (fun q : Nat => s.heap.size ≤ q) (ad1 i)) (hA2 : ∀ i, i < 20 → (fun q : Nat => s.heap.size ≤ q) (ad2 i)) (hne : ∀ i j, i < 122 → j < 20 → ad1 i ≠ ad2 j) {i : Nat} (hi : i + 6 ≤ L) (hL : L ≤ 3072) {S1 S2 : SS} (hG1 : GX g ad1 S1) (hG2 : GM g ad2 S2) (hR : RR S1 S2) {H : Heap} {locs : List Loc} (hP1 : PW g ad1 122 S1 H) (hP2 : PW g ad2 20 S2 H) (hS : va_S (fun q : Nat => s.heap.size ≤ q) s.heap H locs) {ls : Array Slot} (hl : lv_has ls 4 [(0, .ref b), (1, .ref (ad1 0)), (2, .ref (ad2 0)), (3, .int (nI i))]) (K : (∀ (S1 S2 : SS) (H : Heap) (locs : List Loc) (ls : Array Slot), GX g ad1 S1 → GM g ad2 S2 → RR S1 S2 → PW g ad1 122 S1 H → PW g ad2 20 S2 H → va_S (fun q : Nat => s.heap.size ≤ q) s.heap H locs → lv_has ls 4 [(0, .ref b), (1, .ref (ad1 0)), (2, .ref (ad2 0)), (3, .int (nI i))] → W p l e room_1 s m #[Value.ref b] below meth c H locs 142 12631 (lw_Z below #[Value.ref b] s) (F0 m 2159 ls []))) : W p l e room_1 s m #[Value.ref b] below meth c H locs 142 12631 (lw_Z below #[Value.ref b] s) (F0 m 422 ls []) := by
  obtain ⟨hx, hb, hr, hml, hown, hts, hX, hbl, hlocks, hgv⟩ := id C0
  have hbA : ¬ (fun q : Nat => s.heap.size ≤ q) b := Nat.not_le.mpr hbl
  have E : Ev p s m #[Value.ref b] c cL_law "EbbWreckLaw" g := ⟨hx, hb, hown, fun w h => hts w (List.mem_filter.mp h).1, hK⟩
  refine lv_aload_n hx hb dL_law_422 rfl (lv_at hl 1 rfl) ?_
  refine lv_aload_n hx hb dL_law_423 rfl (lv_at hl 0 rfl) ?_
  refine lv_iload_n hx hb dL_law_424 rfl (lv_at hl 3 rfl) ?_
  refine lv_iconst (v := 1) hx hb dL_law_425 (by decide) ?_
  refine lv_iadd hx hb dL_law_426 ?_
  refine sb_at (P := fun z => W _ _ _ _ _ _ _ _ _ _ _ _ _ _ _ (F0 _ _ _ (.int z :: _))) (nI_add i 1) ?_
  refine va_sld hx hb hX hbl hbA hS (vp_in_nI (show i + 1 < L by omega) (by omega)) dL_law_427 ?_
  refine sb_at (P := fun z => W _ _ _ _ _ _ _ _ _ _ _ _ _ _ _ (F0 _ _ _ (.int z :: _))) (show xs (nI (i + 1)).toNatClampNeg = xs (i + 1) by rw [nI_clamp (by omega)]) ?_
  refine lv_aload_n hx hb dL_law_428 rfl (lv_at hl 0 rfl) ?_
  refine lv_iload_n hx hb dL_law_429 rfl (lv_at hl 3 rfl) ?_
  refine lv_iconst (v := 2) hx hb dL_law_430 (by decide) ?_
  refine lv_iadd hx hb dL_law_431 ?_
  refine sb_at (P := fun z => W _ _ _ _ _ _ _ _ _ _ _ _ _ _ _ (F0 _ _ _ (.int z :: _))) (nI_add i 2) ?_
  refine va_sld hx hb hX hbl hbA hS (vp_in_nI (show i + 2 < L by omega) (by omega)) dL_law_432 ?_
  refine sb_at (P := fun z => W _ _ _ _ _ _ _ _ _ _ _ _ _ _ _ (F0 _ _ _ (.int z :: _))) (show xs (nI (i + 2)).toNatClampNeg = xs (i + 2) by rw [nI_clamp (by omega)]) ?_
  obtain ⟨hI1, r2, r39, r57, r75, ar2, ar39, ar57, ar75⟩ := id hG1
  obtain ⟨_, _, _, cc1, _⟩ := invX_0 hI1
  refine xcVi E ⟨hD1, hA1⟩ (⟨hP1, hS⟩ : Hp g ad1 122 S1 (fun q : Nat => s.heap.size ≤ q) s.heap H locs) hml hl.1 0 (gX11_cell_0 l g ad1 hD1 S1 hI1 (xs (i + 1)) (xs (i + 2)) (by omega) (by omega) (by omega)) mX11_cell q819 (by decide) cc1 rfl rfl ⟨(Nat.le_of_ble_eq_true rfl), (Nat.le_of_ble_eq_true rfl)⟩ ⟨(Nat.le_of_ble_eq_true rfl), (Nat.le_of_ble_eq_true rfl)⟩ (Nat.le_of_ble_eq_true rfl) rfl dL_law_433 (fun r1 S3 H locs hp1 hQ1 hk1 => ?_)
  subst hp1
  have hG3 := hG1
  have hP3 : PW g ad1 122 S1 H := hQ1.1
  have hS := hQ1.2
  have hP2 : PW g ad2 20 S2 H := pw_kept hP2 hk1 hne
  refine lv_pop hx hb dL_law_436 rfl ?_
  refine lv_aload_n hx hb dL_law_437 rfl (lv_at hl 2 rfl) ?_
  refine lv_aload_n hx hb dL_law_438 rfl (lv_at hl 0 rfl) ?_
  refine lv_iload_n hx hb dL_law_439 rfl (lv_at hl 3 rfl) ?_
  refine lv_iconst (v := 1) hx hb dL_law_440 (by decide) ?_
  refine lv_iadd hx hb dL_law_441 ?_
  refine sb_at (P := fun z => W _ _ _ _ _ _ _ _ _ _ _ _ _ _ _ (F0 _ _ _ (.int z :: _))) (nI_add i 1) ?_
  refine va_sld hx hb hX hbl hbA hS (vp_in_nI (show i + 1 < L by omega) (by omega)) dL_law_442 ?_
  refine sb_at (P := fun z => W _ _ _ _ _ _ _ _ _ _ _ _ _ _ _ (F0 _ _ _ (.int z :: _))) (show xs (nI (i + 1)).toNatClampNeg = xs (i + 1) by rw [nI_clamp (by omega)]) ?_
  refine lv_aload_n hx hb dL_law_443 rfl (lv_at hl 0 rfl) ?_
  refine lv_iload_n hx hb dL_law_444 rfl (lv_at hl 3 rfl) ?_
  refine lv_iconst (v := 2) hx hb dL_law_445 (by decide) ?_
  refine lv_iadd hx hb dL_law_446 ?_
  refine sb_at (P := fun z => W _ _ _ _ _ _ _ _ _ _ _ _ _ _ _ (F0 _ _ _ (.int z :: _))) (nI_add i 2) ?_
  refine va_sld hx hb hX hbl hbA hS (vp_in_nI (show i + 2 < L by omega) (by omega)) dL_law_447 ?_
  refine sb_at (P := fun z => W _ _ _ _ _ _ _ _ _ _ _ _ _ _ _ (F0 _ _ _ (.int z :: _))) (show xs (nI (i + 2)).toNatClampNeg = xs (i + 2) by rw [nI_clamp (by omega)]) ?_
  obtain ⟨hI2, t0, t1, t2, t3, at0, at1, at2, at3, ht0, ht1, ht2, ht3⟩ := id hG2
  obtain ⟨_, _, _, _, _, _, _, _, _, _, _, _, _, _, _, _, _, _, _, cc2, _, _, _, _, _, _, _, _, _⟩ := invM_0 hI2
  refine xcVi E ⟨hD2, hA2⟩ (⟨hP2, hS⟩ : Hp g ad2 20 S2 (fun q : Nat => s.heap.size ≤ q) s.heap H locs) hml hl.1 0 (gX12_cell_0 l g ad2 hD2 S2 hI2 (xs (i + 1)) (xs (i + 2)) (by omega) (by omega) (by omega) (by omega) (by omega)) mX12_cell q1746 (by decide) cc2 rfl rfl ⟨(Nat.le_of_ble_eq_true rfl), (Nat.le_of_ble_eq_true rfl)⟩ ⟨(Nat.le_of_ble_eq_true rfl), (Nat.le_of_ble_eq_true rfl)⟩ (Nat.le_of_ble_eq_true rfl) rfl dL_law_448 (fun r2 S4 H locs hp2 hQ2 hk2 => ?_)
  obtain ⟨hI4, o2⟩ := hp2
  have hG4 : GM g ad2 S4 := ⟨hI4, (by rw [o2 6 (by decide), o2 7 (by decide)]; exact t0), (by rw [o2 6 (by decide), o2 7 (by decide)]; exact t1), (by rw [o2 6 (by decide), o2 7 (by decide)]; exact t2), (by rw [o2 6 (by decide), o2 7 (by decide)]; exact t3), (at_tr at0 (o2 7 (by decide)) (o2 12 (by decide))), (at_tr at1 (o2 7 (by decide)) (o2 12 (by decide))), (at_tr at2 (o2 7 (by decide)) (o2 12 (by decide))), (at_tr at3 (o2 7 (by decide)) (o2 12 (by decide))), (ht_tr ht0 (o2 7 (by decide)) (o2 9 (by decide))), (ht_tr ht1 (o2 7 (by decide)) (o2 9 (by decide))), (ht_tr ht2 (o2 7 (by decide)) (o2 9 (by decide))), (ht_tr ht3 (o2 7 (by decide)) (o2 9 (by decide)))⟩
  have hS := hQ2.2
  have hP4 : PW g ad2 20 S4 H := hQ2.1
  have hP3 : PW g ad1 122 S1 H := pw_kept hP3 hk2 (fun i j hi hj e => hne j i hj hi e.symm)
  have hR4 : RR S1 S4 := rr_eq hR rfl rfl rfl (o2 13 (by decide)) (o2 1 (by decide)) (o2 2 (by decide))
  refine lv_pop hx hb dL_law_451 rfl ?_
  refine lv_goto (tgt := 2159) hx hb dL_law_452 (by decide) ?_
  exact K S1 S4 H locs ls hG3 hG4 hR4 hP3 hP4 hS hl
set_option maxHeartbeats 4000000 in
set_option maxRecDepth 100000 in
theorem law_case_5 {p : Program} {l : Launch} {e : Env} {s : State} {m : MethodId} {below : List Frame} {meth : Method} {c : Code} {b L : Nat} {xs : Nat → Int32} (C0 : lw_At p s m meth c b L xs) {g : GG} {tt : TT} {ad1 ad2 : Nat → Nat} (hK : KK g s) (hT : TW tt (fun q : Nat => s.heap.size ≤ q) s s.heap) (hD1 : Dj ad1 122) (hD2 : Dj ad2 20) (hA1 : ∀ i, i < 122 → (fun q : Nat => s.heap.size ≤ q) (ad1 i)) (hA2 : ∀ i, i < 20 → (fun q : Nat => s.heap.size ≤ q) (ad2 i)) (hne : ∀ i j, i < 122 → j < 20 → ad1 i ≠ ad2 j) {i : Nat} (hi : i + 6 ≤ L) (hL : L ≤ 3072) {S1 S2 : SS} (hG1 : GX g ad1 S1) (hG2 : GM g ad2 S2) (hR : RR S1 S2) {H : Heap} {locs : List Loc} (hP1 : PW g ad1 122 S1 H) (hP2 : PW g ad2 20 S2 H) (hS : va_S (fun q : Nat => s.heap.size ≤ q) s.heap H locs) {ls : Array Slot} (hl : lv_has ls 4 [(0, .ref b), (1, .ref (ad1 0)), (2, .ref (ad2 0)), (3, .int (nI i))]) (K : (∀ (S1 S2 : SS) (H : Heap) (locs : List Loc) (ls : Array Slot), GX g ad1 S1 → GM g ad2 S2 → RR S1 S2 → PW g ad1 122 S1 H → PW g ad2 20 S2 H → va_S (fun q : Nat => s.heap.size ≤ q) s.heap H locs → lv_has ls 4 [(0, .ref b), (1, .ref (ad1 0)), (2, .ref (ad2 0)), (3, .int (nI i))] → W p l e room_1 s m #[Value.ref b] below meth c H locs 142 12631 (lw_Z below #[Value.ref b] s) (F0 m 2159 ls []))) : W p l e room_1 s m #[Value.ref b] below meth c H locs 142 12631 (lw_Z below #[Value.ref b] s) (F0 m 455 ls []) := by
  obtain ⟨hx, hb, hr, hml, hown, hts, hX, hbl, hlocks, hgv⟩ := id C0
  have hbA : ¬ (fun q : Nat => s.heap.size ≤ q) b := Nat.not_le.mpr hbl
  have E : Ev p s m #[Value.ref b] c cL_law "EbbWreckLaw" g := ⟨hx, hb, hown, fun w h => hts w (List.mem_filter.mp h).1, hK⟩
  refine lv_aload_n hx hb dL_law_455 rfl (lv_at hl 1 rfl) ?_
  refine lv_aload_n hx hb dL_law_456 rfl (lv_at hl 0 rfl) ?_
  refine lv_iload_n hx hb dL_law_457 rfl (lv_at hl 3 rfl) ?_
  refine lv_iconst (v := 1) hx hb dL_law_458 (by decide) ?_
  refine lv_iadd hx hb dL_law_459 ?_
  refine sb_at (P := fun z => W _ _ _ _ _ _ _ _ _ _ _ _ _ _ _ (F0 _ _ _ (.int z :: _))) (nI_add i 1) ?_
  refine va_sld hx hb hX hbl hbA hS (vp_in_nI (show i + 1 < L by omega) (by omega)) dL_law_460 ?_
  refine sb_at (P := fun z => W _ _ _ _ _ _ _ _ _ _ _ _ _ _ _ (F0 _ _ _ (.int z :: _))) (show xs (nI (i + 1)).toNatClampNeg = xs (i + 1) by rw [nI_clamp (by omega)]) ?_
  refine lv_aload_n hx hb dL_law_461 rfl (lv_at hl 0 rfl) ?_
  refine lv_iload_n hx hb dL_law_462 rfl (lv_at hl 3 rfl) ?_
  refine lv_iconst (v := 2) hx hb dL_law_463 (by decide) ?_
  refine lv_iadd hx hb dL_law_464 ?_
  refine sb_at (P := fun z => W _ _ _ _ _ _ _ _ _ _ _ _ _ _ _ (F0 _ _ _ (.int z :: _))) (nI_add i 2) ?_
  refine va_sld hx hb hX hbl hbA hS (vp_in_nI (show i + 2 < L by omega) (by omega)) dL_law_465 ?_
  refine sb_at (P := fun z => W _ _ _ _ _ _ _ _ _ _ _ _ _ _ _ (F0 _ _ _ (.int z :: _))) (show xs (nI (i + 2)).toNatClampNeg = xs (i + 2) by rw [nI_clamp (by omega)]) ?_
  obtain ⟨hI1, r2, r39, r57, r75, ar2, ar39, ar57, ar75⟩ := id hG1
  obtain ⟨_, _, _, cc1, _⟩ := invX_0 hI1
  refine xcVi E ⟨hD1, hA1⟩ (⟨hP1, hS⟩ : Hp g ad1 122 S1 (fun q : Nat => s.heap.size ≤ q) s.heap H locs) hml hl.1 0 (gX11_thing_0 l g ad1 hD1 S1 hI1 (xs (i + 1)) (xs (i + 2)) (by omega) (by omega) (by omega)) mX11_thing q828 (by decide) cc1 rfl rfl ⟨(Nat.le_of_ble_eq_true rfl), (Nat.le_of_ble_eq_true rfl)⟩ ⟨(Nat.le_of_ble_eq_true rfl), (Nat.le_of_ble_eq_true rfl)⟩ (Nat.le_of_ble_eq_true rfl) rfl dL_law_466 (fun r1 S3 H locs hp1 hQ1 hk1 => ?_)
  subst hp1
  have hG3 := hG1
  have hP3 : PW g ad1 122 S1 H := hQ1.1
  have hS := hQ1.2
  have hP2 : PW g ad2 20 S2 H := pw_kept hP2 hk1 hne
  refine lv_pop hx hb dL_law_469 rfl ?_
  refine lv_aload_n hx hb dL_law_470 rfl (lv_at hl 2 rfl) ?_
  refine lv_aload_n hx hb dL_law_471 rfl (lv_at hl 0 rfl) ?_
  refine lv_iload_n hx hb dL_law_472 rfl (lv_at hl 3 rfl) ?_
  refine lv_iconst (v := 1) hx hb dL_law_473 (by decide) ?_
  refine lv_iadd hx hb dL_law_474 ?_
  refine sb_at (P := fun z => W _ _ _ _ _ _ _ _ _ _ _ _ _ _ _ (F0 _ _ _ (.int z :: _))) (nI_add i 1) ?_
  refine va_sld hx hb hX hbl hbA hS (vp_in_nI (show i + 1 < L by omega) (by omega)) dL_law_475 ?_
  refine sb_at (P := fun z => W _ _ _ _ _ _ _ _ _ _ _ _ _ _ _ (F0 _ _ _ (.int z :: _))) (show xs (nI (i + 1)).toNatClampNeg = xs (i + 1) by rw [nI_clamp (by omega)]) ?_
  refine lv_aload_n hx hb dL_law_476 rfl (lv_at hl 0 rfl) ?_
  refine lv_iload_n hx hb dL_law_477 rfl (lv_at hl 3 rfl) ?_
  refine lv_iconst (v := 2) hx hb dL_law_478 (by decide) ?_
  refine lv_iadd hx hb dL_law_479 ?_
  refine sb_at (P := fun z => W _ _ _ _ _ _ _ _ _ _ _ _ _ _ _ (F0 _ _ _ (.int z :: _))) (nI_add i 2) ?_
  refine va_sld hx hb hX hbl hbA hS (vp_in_nI (show i + 2 < L by omega) (by omega)) dL_law_480 ?_
  refine sb_at (P := fun z => W _ _ _ _ _ _ _ _ _ _ _ _ _ _ _ (F0 _ _ _ (.int z :: _))) (show xs (nI (i + 2)).toNatClampNeg = xs (i + 2) by rw [nI_clamp (by omega)]) ?_
  obtain ⟨hI2, t0, t1, t2, t3, at0, at1, at2, at3, ht0, ht1, ht2, ht3⟩ := id hG2
  obtain ⟨_, _, _, _, _, _, _, _, _, _, _, _, _, _, _, _, _, _, _, cc2, _, _, _, _, _, _, _, _, _⟩ := invM_0 hI2
  refine xcVi E ⟨hD2, hA2⟩ (⟨hP2, hS⟩ : Hp g ad2 20 S2 (fun q : Nat => s.heap.size ≤ q) s.heap H locs) hml hl.1 0 (gX12_thing_0 l g ad2 hD2 S2 hI2 (xs (i + 1)) (xs (i + 2)) (by omega) (by omega) (by omega) (by omega) (by omega)) mX12_thing q1762 (by decide) cc2 rfl rfl ⟨(Nat.le_of_ble_eq_true rfl), (Nat.le_of_ble_eq_true rfl)⟩ ⟨(Nat.le_of_ble_eq_true rfl), (Nat.le_of_ble_eq_true rfl)⟩ (Nat.le_of_ble_eq_true rfl) rfl dL_law_481 (fun r2 S4 H locs hp2 hQ2 hk2 => ?_)
  obtain ⟨hI4, o2⟩ := hp2
  have hG4 : GM g ad2 S4 := ⟨hI4, (by rw [o2 6 (by decide), o2 7 (by decide)]; exact t0), (by rw [o2 6 (by decide), o2 7 (by decide)]; exact t1), (by rw [o2 6 (by decide), o2 7 (by decide)]; exact t2), (by rw [o2 6 (by decide), o2 7 (by decide)]; exact t3), (at_tr at0 (o2 7 (by decide)) (o2 12 (by decide))), (at_tr at1 (o2 7 (by decide)) (o2 12 (by decide))), (at_tr at2 (o2 7 (by decide)) (o2 12 (by decide))), (at_tr at3 (o2 7 (by decide)) (o2 12 (by decide))), (ht_tr ht0 (o2 7 (by decide)) (o2 9 (by decide))), (ht_tr ht1 (o2 7 (by decide)) (o2 9 (by decide))), (ht_tr ht2 (o2 7 (by decide)) (o2 9 (by decide))), (ht_tr ht3 (o2 7 (by decide)) (o2 9 (by decide)))⟩
  have hS := hQ2.2
  have hP4 : PW g ad2 20 S4 H := hQ2.1
  have hP3 : PW g ad1 122 S1 H := pw_kept hP3 hk2 (fun i j hi hj e => hne j i hj hi e.symm)
  have hR4 : RR S1 S4 := rr_eq hR rfl rfl rfl (o2 13 (by decide)) (o2 1 (by decide)) (o2 2 (by decide))
  refine lv_pop hx hb dL_law_484 rfl ?_
  refine lv_goto (tgt := 2159) hx hb dL_law_485 (by decide) ?_
  exact K S1 S4 H locs ls hG3 hG4 hR4 hP3 hP4 hS hl
set_option maxHeartbeats 4000000 in
set_option maxRecDepth 100000 in
theorem law_case_6 {p : Program} {l : Launch} {e : Env} {s : State} {m : MethodId} {below : List Frame} {meth : Method} {c : Code} {b L : Nat} {xs : Nat → Int32} (C0 : lw_At p s m meth c b L xs) {g : GG} {tt : TT} {ad1 ad2 : Nat → Nat} (hK : KK g s) (hT : TW tt (fun q : Nat => s.heap.size ≤ q) s s.heap) (hD1 : Dj ad1 122) (hD2 : Dj ad2 20) (hA1 : ∀ i, i < 122 → (fun q : Nat => s.heap.size ≤ q) (ad1 i)) (hA2 : ∀ i, i < 20 → (fun q : Nat => s.heap.size ≤ q) (ad2 i)) (hne : ∀ i j, i < 122 → j < 20 → ad1 i ≠ ad2 j) {i : Nat} (hi : i + 6 ≤ L) (hL : L ≤ 3072) {S1 S2 : SS} (hG1 : GX g ad1 S1) (hG2 : GM g ad2 S2) (hR : RR S1 S2) {H : Heap} {locs : List Loc} (hP1 : PW g ad1 122 S1 H) (hP2 : PW g ad2 20 S2 H) (hS : va_S (fun q : Nat => s.heap.size ≤ q) s.heap H locs) {ls : Array Slot} (hl : lv_has ls 4 [(0, .ref b), (1, .ref (ad1 0)), (2, .ref (ad2 0)), (3, .int (nI i))]) (K : (∀ (S1 S2 : SS) (H : Heap) (locs : List Loc) (ls : Array Slot), GX g ad1 S1 → GM g ad2 S2 → RR S1 S2 → PW g ad1 122 S1 H → PW g ad2 20 S2 H → va_S (fun q : Nat => s.heap.size ≤ q) s.heap H locs → lv_has ls 4 [(0, .ref b), (1, .ref (ad1 0)), (2, .ref (ad2 0)), (3, .int (nI i))] → W p l e room_1 s m #[Value.ref b] below meth c H locs 142 12631 (lw_Z below #[Value.ref b] s) (F0 m 2159 ls []))) : W p l e room_1 s m #[Value.ref b] below meth c H locs 142 12631 (lw_Z below #[Value.ref b] s) (F0 m 488 ls []) := by
  obtain ⟨hx, hb, hr, hml, hown, hts, hX, hbl, hlocks, hgv⟩ := id C0
  have hbA : ¬ (fun q : Nat => s.heap.size ≤ q) b := Nat.not_le.mpr hbl
  have E : Ev p s m #[Value.ref b] c cL_law "EbbWreckLaw" g := ⟨hx, hb, hown, fun w h => hts w (List.mem_filter.mp h).1, hK⟩
  refine lv_aload_n hx hb dL_law_488 rfl (lv_at hl 1 rfl) ?_
  refine lv_aload_n hx hb dL_law_489 rfl (lv_at hl 0 rfl) ?_
  refine lv_iload_n hx hb dL_law_490 rfl (lv_at hl 3 rfl) ?_
  refine lv_iconst (v := 1) hx hb dL_law_491 (by decide) ?_
  refine lv_iadd hx hb dL_law_492 ?_
  refine sb_at (P := fun z => W _ _ _ _ _ _ _ _ _ _ _ _ _ _ _ (F0 _ _ _ (.int z :: _))) (nI_add i 1) ?_
  refine va_sld hx hb hX hbl hbA hS (vp_in_nI (show i + 1 < L by omega) (by omega)) dL_law_493 ?_
  refine sb_at (P := fun z => W _ _ _ _ _ _ _ _ _ _ _ _ _ _ _ (F0 _ _ _ (.int z :: _))) (show xs (nI (i + 1)).toNatClampNeg = xs (i + 1) by rw [nI_clamp (by omega)]) ?_
  refine lv_aload_n hx hb dL_law_494 rfl (lv_at hl 0 rfl) ?_
  refine lv_iload_n hx hb dL_law_495 rfl (lv_at hl 3 rfl) ?_
  refine lv_iconst (v := 2) hx hb dL_law_496 (by decide) ?_
  refine lv_iadd hx hb dL_law_497 ?_
  refine sb_at (P := fun z => W _ _ _ _ _ _ _ _ _ _ _ _ _ _ _ (F0 _ _ _ (.int z :: _))) (nI_add i 2) ?_
  refine va_sld hx hb hX hbl hbA hS (vp_in_nI (show i + 2 < L by omega) (by omega)) dL_law_498 ?_
  refine sb_at (P := fun z => W _ _ _ _ _ _ _ _ _ _ _ _ _ _ _ (F0 _ _ _ (.int z :: _))) (show xs (nI (i + 2)).toNatClampNeg = xs (i + 2) by rw [nI_clamp (by omega)]) ?_
  obtain ⟨hI1, r2, r39, r57, r75, ar2, ar39, ar57, ar75⟩ := id hG1
  obtain ⟨_, _, _, cc1, _⟩ := invX_0 hI1
  refine xcVi E ⟨hD1, hA1⟩ (⟨hP1, hS⟩ : Hp g ad1 122 S1 (fun q : Nat => s.heap.size ≤ q) s.heap H locs) hml hl.1 0 (gX11_rule_0 l g ad1 hD1 S1 hI1 (xs (i + 1)) (xs (i + 2)) (by omega) (by omega) (by omega)) mX11_rule q836 (by decide) cc1 rfl rfl ⟨(Nat.le_of_ble_eq_true rfl), (Nat.le_of_ble_eq_true rfl)⟩ ⟨(Nat.le_of_ble_eq_true rfl), (Nat.le_of_ble_eq_true rfl)⟩ (Nat.le_of_ble_eq_true rfl) rfl dL_law_499 (fun r1 S3 H locs hp1 hQ1 hk1 => ?_)
  subst hp1
  have hG3 := hG1
  have hP3 : PW g ad1 122 S1 H := hQ1.1
  have hS := hQ1.2
  have hP2 : PW g ad2 20 S2 H := pw_kept hP2 hk1 hne
  refine lv_pop hx hb dL_law_502 rfl ?_
  refine lv_aload_n hx hb dL_law_503 rfl (lv_at hl 2 rfl) ?_
  refine lv_aload_n hx hb dL_law_504 rfl (lv_at hl 0 rfl) ?_
  refine lv_iload_n hx hb dL_law_505 rfl (lv_at hl 3 rfl) ?_
  refine lv_iconst (v := 1) hx hb dL_law_506 (by decide) ?_
  refine lv_iadd hx hb dL_law_507 ?_
  refine sb_at (P := fun z => W _ _ _ _ _ _ _ _ _ _ _ _ _ _ _ (F0 _ _ _ (.int z :: _))) (nI_add i 1) ?_
  refine va_sld hx hb hX hbl hbA hS (vp_in_nI (show i + 1 < L by omega) (by omega)) dL_law_508 ?_
  refine sb_at (P := fun z => W _ _ _ _ _ _ _ _ _ _ _ _ _ _ _ (F0 _ _ _ (.int z :: _))) (show xs (nI (i + 1)).toNatClampNeg = xs (i + 1) by rw [nI_clamp (by omega)]) ?_
  refine lv_aload_n hx hb dL_law_509 rfl (lv_at hl 0 rfl) ?_
  refine lv_iload_n hx hb dL_law_510 rfl (lv_at hl 3 rfl) ?_
  refine lv_iconst (v := 2) hx hb dL_law_511 (by decide) ?_
  refine lv_iadd hx hb dL_law_512 ?_
  refine sb_at (P := fun z => W _ _ _ _ _ _ _ _ _ _ _ _ _ _ _ (F0 _ _ _ (.int z :: _))) (nI_add i 2) ?_
  refine va_sld hx hb hX hbl hbA hS (vp_in_nI (show i + 2 < L by omega) (by omega)) dL_law_513 ?_
  refine sb_at (P := fun z => W _ _ _ _ _ _ _ _ _ _ _ _ _ _ _ (F0 _ _ _ (.int z :: _))) (show xs (nI (i + 2)).toNatClampNeg = xs (i + 2) by rw [nI_clamp (by omega)]) ?_
  obtain ⟨hI2, t0, t1, t2, t3, at0, at1, at2, at3, ht0, ht1, ht2, ht3⟩ := id hG2
  obtain ⟨_, _, _, _, _, _, _, _, _, _, _, _, _, _, _, _, _, _, _, cc2, _, _, _, _, _, _, _, _, _⟩ := invM_0 hI2
  refine xcVi E ⟨hD2, hA2⟩ (⟨hP2, hS⟩ : Hp g ad2 20 S2 (fun q : Nat => s.heap.size ≤ q) s.heap H locs) hml hl.1 0 (gX12_rule_0 l g ad2 hD2 S2 hI2 (xs (i + 1)) (xs (i + 2)) (by omega) (by omega) (by omega) (by omega) (by omega)) mX12_rule q1770 (by decide) cc2 rfl rfl ⟨(Nat.le_of_ble_eq_true rfl), (Nat.le_of_ble_eq_true rfl)⟩ ⟨(Nat.le_of_ble_eq_true rfl), (Nat.le_of_ble_eq_true rfl)⟩ (Nat.le_of_ble_eq_true rfl) rfl dL_law_514 (fun r2 S4 H locs hp2 hQ2 hk2 => ?_)
  obtain ⟨hI4, o2⟩ := hp2
  have hG4 : GM g ad2 S4 := ⟨hI4, (by rw [o2 6 (by decide), o2 7 (by decide)]; exact t0), (by rw [o2 6 (by decide), o2 7 (by decide)]; exact t1), (by rw [o2 6 (by decide), o2 7 (by decide)]; exact t2), (by rw [o2 6 (by decide), o2 7 (by decide)]; exact t3), (at_tr at0 (o2 7 (by decide)) (o2 12 (by decide))), (at_tr at1 (o2 7 (by decide)) (o2 12 (by decide))), (at_tr at2 (o2 7 (by decide)) (o2 12 (by decide))), (at_tr at3 (o2 7 (by decide)) (o2 12 (by decide))), (ht_tr ht0 (o2 7 (by decide)) (o2 9 (by decide))), (ht_tr ht1 (o2 7 (by decide)) (o2 9 (by decide))), (ht_tr ht2 (o2 7 (by decide)) (o2 9 (by decide))), (ht_tr ht3 (o2 7 (by decide)) (o2 9 (by decide)))⟩
  have hS := hQ2.2
  have hP4 : PW g ad2 20 S4 H := hQ2.1
  have hP3 : PW g ad1 122 S1 H := pw_kept hP3 hk2 (fun i j hi hj e => hne j i hj hi e.symm)
  have hR4 : RR S1 S4 := rr_eq hR rfl rfl rfl (o2 13 (by decide)) (o2 1 (by decide)) (o2 2 (by decide))
  refine lv_pop hx hb dL_law_517 rfl ?_
  refine lv_goto (tgt := 2159) hx hb dL_law_518 (by decide) ?_
  exact K S1 S4 H locs ls hG3 hG4 hR4 hP3 hP4 hS hl
set_option maxHeartbeats 4000000 in
set_option maxRecDepth 100000 in
theorem law_case_7 {p : Program} {l : Launch} {e : Env} {s : State} {m : MethodId} {below : List Frame} {meth : Method} {c : Code} {b L : Nat} {xs : Nat → Int32} (C0 : lw_At p s m meth c b L xs) {g : GG} {tt : TT} {ad1 ad2 : Nat → Nat} (hK : KK g s) (hT : TW tt (fun q : Nat => s.heap.size ≤ q) s s.heap) (hD1 : Dj ad1 122) (hD2 : Dj ad2 20) (hA1 : ∀ i, i < 122 → (fun q : Nat => s.heap.size ≤ q) (ad1 i)) (hA2 : ∀ i, i < 20 → (fun q : Nat => s.heap.size ≤ q) (ad2 i)) (hne : ∀ i j, i < 122 → j < 20 → ad1 i ≠ ad2 j) {i : Nat} (hi : i + 6 ≤ L) (hL : L ≤ 3072) {S1 S2 : SS} (hG1 : GX g ad1 S1) (hG2 : GM g ad2 S2) (hR : RR S1 S2) {H : Heap} {locs : List Loc} (hP1 : PW g ad1 122 S1 H) (hP2 : PW g ad2 20 S2 H) (hS : va_S (fun q : Nat => s.heap.size ≤ q) s.heap H locs) {ls : Array Slot} (hl : lv_has ls 4 [(0, .ref b), (1, .ref (ad1 0)), (2, .ref (ad2 0)), (3, .int (nI i))]) (K : (∀ (S1 S2 : SS) (H : Heap) (locs : List Loc) (ls : Array Slot), GX g ad1 S1 → GM g ad2 S2 → RR S1 S2 → PW g ad1 122 S1 H → PW g ad2 20 S2 H → va_S (fun q : Nat => s.heap.size ≤ q) s.heap H locs → lv_has ls 4 [(0, .ref b), (1, .ref (ad1 0)), (2, .ref (ad2 0)), (3, .int (nI i))] → W p l e room_1 s m #[Value.ref b] below meth c H locs 142 12631 (lw_Z below #[Value.ref b] s) (F0 m 2159 ls []))) : W p l e room_1 s m #[Value.ref b] below meth c H locs 142 12631 (lw_Z below #[Value.ref b] s) (F0 m 521 ls []) := by
  obtain ⟨hx, hb, hr, hml, hown, hts, hX, hbl, hlocks, hgv⟩ := id C0
  have hbA : ¬ (fun q : Nat => s.heap.size ≤ q) b := Nat.not_le.mpr hbl
  have E : Ev p s m #[Value.ref b] c cL_law "EbbWreckLaw" g := ⟨hx, hb, hown, fun w h => hts w (List.mem_filter.mp h).1, hK⟩
  refine lv_aload_n hx hb dL_law_521 rfl (lv_at hl 1 rfl) ?_
  refine lv_aload_n hx hb dL_law_522 rfl (lv_at hl 0 rfl) ?_
  refine lv_iload_n hx hb dL_law_523 rfl (lv_at hl 3 rfl) ?_
  refine lv_iconst (v := 1) hx hb dL_law_524 (by decide) ?_
  refine lv_iadd hx hb dL_law_525 ?_
  refine sb_at (P := fun z => W _ _ _ _ _ _ _ _ _ _ _ _ _ _ _ (F0 _ _ _ (.int z :: _))) (nI_add i 1) ?_
  refine va_sld hx hb hX hbl hbA hS (vp_in_nI (show i + 1 < L by omega) (by omega)) dL_law_526 ?_
  refine sb_at (P := fun z => W _ _ _ _ _ _ _ _ _ _ _ _ _ _ _ (F0 _ _ _ (.int z :: _))) (show xs (nI (i + 1)).toNatClampNeg = xs (i + 1) by rw [nI_clamp (by omega)]) ?_
  obtain ⟨hI1, r2, r39, r57, r75, ar2, ar39, ar57, ar75⟩ := id hG1
  obtain ⟨_, _, _, cc1, _⟩ := invX_0 hI1
  refine xcVi E ⟨hD1, hA1⟩ (⟨hP1, hS⟩ : Hp g ad1 122 S1 (fun q : Nat => s.heap.size ≤ q) s.heap H locs) hml hl.1 0 (gX11_sitter_0 l g ad1 hD1 S1 hI1 (xs (i + 1)) (by omega) (by omega) (by omega)) mX11_sitter q844 (by decide) cc1 rfl rfl ⟨(Nat.le_of_ble_eq_true rfl), (Nat.le_of_ble_eq_true rfl)⟩ ⟨(Nat.le_of_ble_eq_true rfl), (Nat.le_of_ble_eq_true rfl)⟩ (Nat.le_of_ble_eq_true rfl) rfl dL_law_527 (fun r1 S3 H locs hp1 hQ1 hk1 => ?_)
  obtain ⟨rfl, bb1⟩ := hp1
  have hG3 := hG1
  have hP3 : PW g ad1 122 S1 H := hQ1.1
  have hS := hQ1.2
  have hP2 : PW g ad2 20 S2 H := pw_kept hP2 hk1 hne
  refine lv_pop hx hb dL_law_530 rfl ?_
  refine lv_aload_n hx hb dL_law_531 rfl (lv_at hl 2 rfl) ?_
  refine lv_aload_n hx hb dL_law_532 rfl (lv_at hl 0 rfl) ?_
  refine lv_iload_n hx hb dL_law_533 rfl (lv_at hl 3 rfl) ?_
  refine lv_iconst (v := 1) hx hb dL_law_534 (by decide) ?_
  refine lv_iadd hx hb dL_law_535 ?_
  refine sb_at (P := fun z => W _ _ _ _ _ _ _ _ _ _ _ _ _ _ _ (F0 _ _ _ (.int z :: _))) (nI_add i 1) ?_
  refine va_sld hx hb hX hbl hbA hS (vp_in_nI (show i + 1 < L by omega) (by omega)) dL_law_536 ?_
  refine sb_at (P := fun z => W _ _ _ _ _ _ _ _ _ _ _ _ _ _ _ (F0 _ _ _ (.int z :: _))) (show xs (nI (i + 1)).toNatClampNeg = xs (i + 1) by rw [nI_clamp (by omega)]) ?_
  obtain ⟨hI2, t0, t1, t2, t3, at0, at1, at2, at3, ht0, ht1, ht2, ht3⟩ := id hG2
  obtain ⟨_, _, _, _, _, _, _, _, _, _, _, _, _, _, _, _, _, _, _, cc2, _, _, _, _, _, _, _, _, _⟩ := invM_0 hI2
  refine xcVi E ⟨hD2, hA2⟩ (⟨hP2, hS⟩ : Hp g ad2 20 S2 (fun q : Nat => s.heap.size ≤ q) s.heap H locs) hml hl.1 0 (gX12_sitter_0 l g ad2 hD2 S2 hI2 (xs (i + 1)) (by omega) (by omega) (by omega) (by omega) (by omega) at0) mX12_sitter q1812 (by decide) cc2 rfl rfl ⟨(Nat.le_of_ble_eq_true rfl), (Nat.le_of_ble_eq_true rfl)⟩ ⟨(Nat.le_of_ble_eq_true rfl), (Nat.le_of_ble_eq_true rfl)⟩ (Nat.le_of_ble_eq_true rfl) rfl dL_law_537 (fun r2 S4 H locs hp2 hQ2 hk2 => ?_)
  obtain ⟨hI4, o2, bb2⟩ := hp2
  have hG4 : GM g ad2 S4 := ⟨hI4, (by rw [o2 6 (by decide), o2 7 (by decide)]; exact t0), (by rw [o2 6 (by decide), o2 7 (by decide)]; exact t1), (by rw [o2 6 (by decide), o2 7 (by decide)]; exact t2), (by rw [o2 6 (by decide), o2 7 (by decide)]; exact t3), (at_tr at0 (o2 7 (by decide)) (o2 12 (by decide))), (at_tr at1 (o2 7 (by decide)) (o2 12 (by decide))), (at_tr at2 (o2 7 (by decide)) (o2 12 (by decide))), (at_tr at3 (o2 7 (by decide)) (o2 12 (by decide))), (ht_tr ht0 (o2 7 (by decide)) (o2 9 (by decide))), (ht_tr ht1 (o2 7 (by decide)) (o2 9 (by decide))), (ht_tr ht2 (o2 7 (by decide)) (o2 9 (by decide))), (ht_tr ht3 (o2 7 (by decide)) (o2 9 (by decide)))⟩
  have hS := hQ2.2
  have hP4 : PW g ad2 20 S4 H := hQ2.1
  have hP3 : PW g ad1 122 S1 H := pw_kept hP3 hk2 (fun i j hi hj e => hne j i hj hi e.symm)
  have hR4 : RR S1 S4 := rr_eq hR rfl rfl rfl (o2 13 (by decide)) (o2 1 (by decide)) (o2 2 (by decide))
  refine lv_pop hx hb dL_law_540 rfl ?_
  refine lv_goto (tgt := 2159) hx hb dL_law_541 (by decide) ?_
  exact K S1 S4 H locs ls hG3 hG4 hR4 hP3 hP4 hS hl
set_option maxHeartbeats 4000000 in
set_option maxRecDepth 100000 in
theorem law_case_8 {p : Program} {l : Launch} {e : Env} {s : State} {m : MethodId} {below : List Frame} {meth : Method} {c : Code} {b L : Nat} {xs : Nat → Int32} (C0 : lw_At p s m meth c b L xs) {g : GG} {tt : TT} {ad1 ad2 : Nat → Nat} (hK : KK g s) (hT : TW tt (fun q : Nat => s.heap.size ≤ q) s s.heap) (hD1 : Dj ad1 122) (hD2 : Dj ad2 20) (hA1 : ∀ i, i < 122 → (fun q : Nat => s.heap.size ≤ q) (ad1 i)) (hA2 : ∀ i, i < 20 → (fun q : Nat => s.heap.size ≤ q) (ad2 i)) (hne : ∀ i j, i < 122 → j < 20 → ad1 i ≠ ad2 j) {i : Nat} (hi : i + 6 ≤ L) (hL : L ≤ 3072) {S1 S2 : SS} (hG1 : GX g ad1 S1) (hG2 : GM g ad2 S2) (hR : RR S1 S2) {H : Heap} {locs : List Loc} (hP1 : PW g ad1 122 S1 H) (hP2 : PW g ad2 20 S2 H) (hS : va_S (fun q : Nat => s.heap.size ≤ q) s.heap H locs) {ls : Array Slot} (hl : lv_has ls 4 [(0, .ref b), (1, .ref (ad1 0)), (2, .ref (ad2 0)), (3, .int (nI i))]) (K : (∀ (S1 S2 : SS) (H : Heap) (locs : List Loc) (ls : Array Slot), GX g ad1 S1 → GM g ad2 S2 → RR S1 S2 → PW g ad1 122 S1 H → PW g ad2 20 S2 H → va_S (fun q : Nat => s.heap.size ≤ q) s.heap H locs → lv_has ls 4 [(0, .ref b), (1, .ref (ad1 0)), (2, .ref (ad2 0)), (3, .int (nI i))] → W p l e room_1 s m #[Value.ref b] below meth c H locs 142 12631 (lw_Z below #[Value.ref b] s) (F0 m 2159 ls []))) : W p l e room_1 s m #[Value.ref b] below meth c H locs 142 12631 (lw_Z below #[Value.ref b] s) (F0 m 544 ls []) := by
  obtain ⟨hx, hb, hr, hml, hown, hts, hX, hbl, hlocks, hgv⟩ := id C0
  have hbA : ¬ (fun q : Nat => s.heap.size ≤ q) b := Nat.not_le.mpr hbl
  have E : Ev p s m #[Value.ref b] c cL_law "EbbWreckLaw" g := ⟨hx, hb, hown, fun w h => hts w (List.mem_filter.mp h).1, hK⟩
  refine lv_aload_n hx hb dL_law_544 rfl (lv_at hl 1 rfl) ?_
  refine lv_aload_n hx hb dL_law_545 rfl (lv_at hl 0 rfl) ?_
  refine lv_iload_n hx hb dL_law_546 rfl (lv_at hl 3 rfl) ?_
  refine lv_iconst (v := 1) hx hb dL_law_547 (by decide) ?_
  refine lv_iadd hx hb dL_law_548 ?_
  refine sb_at (P := fun z => W _ _ _ _ _ _ _ _ _ _ _ _ _ _ _ (F0 _ _ _ (.int z :: _))) (nI_add i 1) ?_
  refine va_sld hx hb hX hbl hbA hS (vp_in_nI (show i + 1 < L by omega) (by omega)) dL_law_549 ?_
  refine sb_at (P := fun z => W _ _ _ _ _ _ _ _ _ _ _ _ _ _ _ (F0 _ _ _ (.int z :: _))) (show xs (nI (i + 1)).toNatClampNeg = xs (i + 1) by rw [nI_clamp (by omega)]) ?_
  obtain ⟨hI1, r2, r39, r57, r75, ar2, ar39, ar57, ar75⟩ := id hG1
  obtain ⟨_, _, _, cc1, _⟩ := invX_0 hI1
  refine xcVi E ⟨hD1, hA1⟩ (⟨hP1, hS⟩ : Hp g ad1 122 S1 (fun q : Nat => s.heap.size ≤ q) s.heap H locs) hml hl.1 0 (gX11_phase_0 l g ad1 hD1 S1 hI1 (xs (i + 1)) (by omega) (by omega) (by omega)) mX11_phase q870 (by decide) cc1 rfl rfl ⟨(Nat.le_of_ble_eq_true rfl), (Nat.le_of_ble_eq_true rfl)⟩ ⟨(Nat.le_of_ble_eq_true rfl), (Nat.le_of_ble_eq_true rfl)⟩ (Nat.le_of_ble_eq_true rfl) rfl dL_law_550 (fun r1 S3 H locs hp1 hQ1 hk1 => ?_)
  subst hp1
  have hG3 := hG1
  have hP3 : PW g ad1 122 S1 H := hQ1.1
  have hS := hQ1.2
  have hP2 : PW g ad2 20 S2 H := pw_kept hP2 hk1 hne
  refine lv_pop hx hb dL_law_553 rfl ?_
  refine lv_aload_n hx hb dL_law_554 rfl (lv_at hl 2 rfl) ?_
  refine lv_aload_n hx hb dL_law_555 rfl (lv_at hl 0 rfl) ?_
  refine lv_iload_n hx hb dL_law_556 rfl (lv_at hl 3 rfl) ?_
  refine lv_iconst (v := 1) hx hb dL_law_557 (by decide) ?_
  refine lv_iadd hx hb dL_law_558 ?_
  refine sb_at (P := fun z => W _ _ _ _ _ _ _ _ _ _ _ _ _ _ _ (F0 _ _ _ (.int z :: _))) (nI_add i 1) ?_
  refine va_sld hx hb hX hbl hbA hS (vp_in_nI (show i + 1 < L by omega) (by omega)) dL_law_559 ?_
  refine sb_at (P := fun z => W _ _ _ _ _ _ _ _ _ _ _ _ _ _ _ (F0 _ _ _ (.int z :: _))) (show xs (nI (i + 1)).toNatClampNeg = xs (i + 1) by rw [nI_clamp (by omega)]) ?_
  obtain ⟨hI2, t0, t1, t2, t3, at0, at1, at2, at3, ht0, ht1, ht2, ht3⟩ := id hG2
  obtain ⟨_, _, _, _, _, _, _, _, _, _, _, _, _, _, _, _, _, _, _, cc2, _, _, _, _, _, _, _, _, _⟩ := invM_0 hI2
  refine xcVi E ⟨hD2, hA2⟩ (⟨hP2, hS⟩ : Hp g ad2 20 S2 (fun q : Nat => s.heap.size ≤ q) s.heap H locs) hml hl.1 0 (gX12_phase_0 l g ad2 hD2 S2 hI2 (xs (i + 1)) (by omega) (by omega) (by omega) (by omega) (by omega)) mX12_phase q1778 (by decide) cc2 rfl rfl ⟨(Nat.le_of_ble_eq_true rfl), (Nat.le_of_ble_eq_true rfl)⟩ ⟨(Nat.le_of_ble_eq_true rfl), (Nat.le_of_ble_eq_true rfl)⟩ (Nat.le_of_ble_eq_true rfl) rfl dL_law_560 (fun r2 S4 H locs hp2 hQ2 hk2 => ?_)
  obtain ⟨hI4, o2, bb2⟩ := hp2
  have hG4 : GM g ad2 S4 := ⟨hI4, (by rw [o2 6 (by decide), o2 7 (by decide)]; exact t0), (by rw [o2 6 (by decide), o2 7 (by decide)]; exact t1), (by rw [o2 6 (by decide), o2 7 (by decide)]; exact t2), (by rw [o2 6 (by decide), o2 7 (by decide)]; exact t3), (at_tr at0 (o2 7 (by decide)) (o2 12 (by decide))), (at_tr at1 (o2 7 (by decide)) (o2 12 (by decide))), (at_tr at2 (o2 7 (by decide)) (o2 12 (by decide))), (at_tr at3 (o2 7 (by decide)) (o2 12 (by decide))), (ht_tr ht0 (o2 7 (by decide)) (o2 9 (by decide))), (ht_tr ht1 (o2 7 (by decide)) (o2 9 (by decide))), (ht_tr ht2 (o2 7 (by decide)) (o2 9 (by decide))), (ht_tr ht3 (o2 7 (by decide)) (o2 9 (by decide)))⟩
  have hS := hQ2.2
  have hP4 : PW g ad2 20 S4 H := hQ2.1
  have hP3 : PW g ad1 122 S1 H := pw_kept hP3 hk2 (fun i j hi hj e => hne j i hj hi e.symm)
  have hR4 : RR S1 S4 := rr_eq hR rfl rfl rfl (o2 13 (by decide)) (o2 1 (by decide)) (o2 2 (by decide))
  refine lv_pop hx hb dL_law_563 rfl ?_
  refine lv_goto (tgt := 2159) hx hb dL_law_564 (by decide) ?_
  exact K S1 S4 H locs ls hG3 hG4 hR4 hP3 hP4 hS hl
set_option maxHeartbeats 4000000 in
set_option maxRecDepth 100000 in
theorem law_case_9 {p : Program} {l : Launch} {e : Env} {s : State} {m : MethodId} {below : List Frame} {meth : Method} {c : Code} {b L : Nat} {xs : Nat → Int32} (C0 : lw_At p s m meth c b L xs) {g : GG} {tt : TT} {ad1 ad2 : Nat → Nat} (hK : KK g s) (hT : TW tt (fun q : Nat => s.heap.size ≤ q) s s.heap) (hD1 : Dj ad1 122) (hD2 : Dj ad2 20) (hA1 : ∀ i, i < 122 → (fun q : Nat => s.heap.size ≤ q) (ad1 i)) (hA2 : ∀ i, i < 20 → (fun q : Nat => s.heap.size ≤ q) (ad2 i)) (hne : ∀ i j, i < 122 → j < 20 → ad1 i ≠ ad2 j) {i : Nat} (hi : i + 6 ≤ L) (hL : L ≤ 3072) {S1 S2 : SS} (hG1 : GX g ad1 S1) (hG2 : GM g ad2 S2) (hR : RR S1 S2) {H : Heap} {locs : List Loc} (hP1 : PW g ad1 122 S1 H) (hP2 : PW g ad2 20 S2 H) (hS : va_S (fun q : Nat => s.heap.size ≤ q) s.heap H locs) {ls : Array Slot} (hl : lv_has ls 4 [(0, .ref b), (1, .ref (ad1 0)), (2, .ref (ad2 0)), (3, .int (nI i))]) (K : (∀ (S1 S2 : SS) (H : Heap) (locs : List Loc) (ls : Array Slot), GX g ad1 S1 → GM g ad2 S2 → RR S1 S2 → PW g ad1 122 S1 H → PW g ad2 20 S2 H → va_S (fun q : Nat => s.heap.size ≤ q) s.heap H locs → lv_has ls 4 [(0, .ref b), (1, .ref (ad1 0)), (2, .ref (ad2 0)), (3, .int (nI i))] → W p l e room_1 s m #[Value.ref b] below meth c H locs 142 12631 (lw_Z below #[Value.ref b] s) (F0 m 2159 ls []))) : W p l e room_1 s m #[Value.ref b] below meth c H locs 142 12631 (lw_Z below #[Value.ref b] s) (F0 m 567 ls []) := by
  obtain ⟨hx, hb, hr, hml, hown, hts, hX, hbl, hlocks, hgv⟩ := id C0
  have hbA : ¬ (fun q : Nat => s.heap.size ≤ q) b := Nat.not_le.mpr hbl
  have E : Ev p s m #[Value.ref b] c cL_law "EbbWreckLaw" g := ⟨hx, hb, hown, fun w h => hts w (List.mem_filter.mp h).1, hK⟩
  refine lv_aload_n hx hb dL_law_567 rfl (lv_at hl 1 rfl) ?_
  refine lv_aload_n hx hb dL_law_568 rfl (lv_at hl 0 rfl) ?_
  refine lv_iload_n hx hb dL_law_569 rfl (lv_at hl 3 rfl) ?_
  refine lv_iconst (v := 1) hx hb dL_law_570 (by decide) ?_
  refine lv_iadd hx hb dL_law_571 ?_
  refine sb_at (P := fun z => W _ _ _ _ _ _ _ _ _ _ _ _ _ _ _ (F0 _ _ _ (.int z :: _))) (nI_add i 1) ?_
  refine va_sld hx hb hX hbl hbA hS (vp_in_nI (show i + 1 < L by omega) (by omega)) dL_law_572 ?_
  refine sb_at (P := fun z => W _ _ _ _ _ _ _ _ _ _ _ _ _ _ _ (F0 _ _ _ (.int z :: _))) (show xs (nI (i + 1)).toNatClampNeg = xs (i + 1) by rw [nI_clamp (by omega)]) ?_
  refine lv_aload_n hx hb dL_law_573 rfl (lv_at hl 0 rfl) ?_
  refine lv_iload_n hx hb dL_law_574 rfl (lv_at hl 3 rfl) ?_
  refine lv_iconst (v := 2) hx hb dL_law_575 (by decide) ?_
  refine lv_iadd hx hb dL_law_576 ?_
  refine sb_at (P := fun z => W _ _ _ _ _ _ _ _ _ _ _ _ _ _ _ (F0 _ _ _ (.int z :: _))) (nI_add i 2) ?_
  refine va_sld hx hb hX hbl hbA hS (vp_in_nI (show i + 2 < L by omega) (by omega)) dL_law_577 ?_
  refine sb_at (P := fun z => W _ _ _ _ _ _ _ _ _ _ _ _ _ _ _ (F0 _ _ _ (.int z :: _))) (show xs (nI (i + 2)).toNatClampNeg = xs (i + 2) by rw [nI_clamp (by omega)]) ?_
  obtain ⟨hI1, r2, r39, r57, r75, ar2, ar39, ar57, ar75⟩ := id hG1
  obtain ⟨_, _, _, cc1, _⟩ := invX_0 hI1
  refine xcVi E ⟨hD1, hA1⟩ (⟨hP1, hS⟩ : Hp g ad1 122 S1 (fun q : Nat => s.heap.size ≤ q) s.heap H locs) hml hl.1 0 (gX11_next_0 l g ad1 hD1 S1 hI1 (xs (i + 1)) (xs (i + 2)) (by omega) (by omega) (by omega)) mX11_next q887 (by decide) cc1 rfl rfl ⟨(Nat.le_of_ble_eq_true rfl), (Nat.le_of_ble_eq_true rfl)⟩ ⟨(Nat.le_of_ble_eq_true rfl), (Nat.le_of_ble_eq_true rfl)⟩ (Nat.le_of_ble_eq_true rfl) rfl dL_law_578 (fun r1 S3 H locs hp1 hQ1 hk1 => ?_)
  subst hp1
  have hG3 := hG1
  have hP3 : PW g ad1 122 S1 H := hQ1.1
  have hS := hQ1.2
  have hP2 : PW g ad2 20 S2 H := pw_kept hP2 hk1 hne
  refine lv_pop hx hb dL_law_581 rfl ?_
  refine lv_aload_n hx hb dL_law_582 rfl (lv_at hl 2 rfl) ?_
  refine lv_aload_n hx hb dL_law_583 rfl (lv_at hl 0 rfl) ?_
  refine lv_iload_n hx hb dL_law_584 rfl (lv_at hl 3 rfl) ?_
  refine lv_iconst (v := 1) hx hb dL_law_585 (by decide) ?_
  refine lv_iadd hx hb dL_law_586 ?_
  refine sb_at (P := fun z => W _ _ _ _ _ _ _ _ _ _ _ _ _ _ _ (F0 _ _ _ (.int z :: _))) (nI_add i 1) ?_
  refine va_sld hx hb hX hbl hbA hS (vp_in_nI (show i + 1 < L by omega) (by omega)) dL_law_587 ?_
  refine sb_at (P := fun z => W _ _ _ _ _ _ _ _ _ _ _ _ _ _ _ (F0 _ _ _ (.int z :: _))) (show xs (nI (i + 1)).toNatClampNeg = xs (i + 1) by rw [nI_clamp (by omega)]) ?_
  refine lv_aload_n hx hb dL_law_588 rfl (lv_at hl 0 rfl) ?_
  refine lv_iload_n hx hb dL_law_589 rfl (lv_at hl 3 rfl) ?_
  refine lv_iconst (v := 2) hx hb dL_law_590 (by decide) ?_
  refine lv_iadd hx hb dL_law_591 ?_
  refine sb_at (P := fun z => W _ _ _ _ _ _ _ _ _ _ _ _ _ _ _ (F0 _ _ _ (.int z :: _))) (nI_add i 2) ?_
  refine va_sld hx hb hX hbl hbA hS (vp_in_nI (show i + 2 < L by omega) (by omega)) dL_law_592 ?_
  refine sb_at (P := fun z => W _ _ _ _ _ _ _ _ _ _ _ _ _ _ _ (F0 _ _ _ (.int z :: _))) (show xs (nI (i + 2)).toNatClampNeg = xs (i + 2) by rw [nI_clamp (by omega)]) ?_
  obtain ⟨hI2, t0, t1, t2, t3, at0, at1, at2, at3, ht0, ht1, ht2, ht3⟩ := id hG2
  obtain ⟨_, _, _, _, _, _, _, _, _, _, _, _, _, _, _, _, _, _, _, cc2, _, _, _, _, _, _, _, _, _⟩ := invM_0 hI2
  refine xcVi E ⟨hD2, hA2⟩ (⟨hP2, hS⟩ : Hp g ad2 20 S2 (fun q : Nat => s.heap.size ≤ q) s.heap H locs) hml hl.1 0 (gX12_next__0 l g ad2 hD2 S2 hI2 (xs (i + 1)) (xs (i + 2)) (by omega) (by omega) (by omega) (by omega) (by omega)) mX12_next_ q1795 (by decide) cc2 rfl rfl ⟨(Nat.le_of_ble_eq_true rfl), (Nat.le_of_ble_eq_true rfl)⟩ ⟨(Nat.le_of_ble_eq_true rfl), (Nat.le_of_ble_eq_true rfl)⟩ (Nat.le_of_ble_eq_true rfl) rfl dL_law_593 (fun r2 S4 H locs hp2 hQ2 hk2 => ?_)
  obtain ⟨hI4, o2⟩ := hp2
  have hG4 : GM g ad2 S4 := ⟨hI4, (by rw [o2 6 (by decide), o2 7 (by decide)]; exact t0), (by rw [o2 6 (by decide), o2 7 (by decide)]; exact t1), (by rw [o2 6 (by decide), o2 7 (by decide)]; exact t2), (by rw [o2 6 (by decide), o2 7 (by decide)]; exact t3), (at_tr at0 (o2 7 (by decide)) (o2 12 (by decide))), (at_tr at1 (o2 7 (by decide)) (o2 12 (by decide))), (at_tr at2 (o2 7 (by decide)) (o2 12 (by decide))), (at_tr at3 (o2 7 (by decide)) (o2 12 (by decide))), (ht_tr ht0 (o2 7 (by decide)) (o2 9 (by decide))), (ht_tr ht1 (o2 7 (by decide)) (o2 9 (by decide))), (ht_tr ht2 (o2 7 (by decide)) (o2 9 (by decide))), (ht_tr ht3 (o2 7 (by decide)) (o2 9 (by decide)))⟩
  have hS := hQ2.2
  have hP4 : PW g ad2 20 S4 H := hQ2.1
  have hP3 : PW g ad1 122 S1 H := pw_kept hP3 hk2 (fun i j hi hj e => hne j i hj hi e.symm)
  have hR4 : RR S1 S4 := rr_eq hR rfl rfl rfl (o2 13 (by decide)) (o2 1 (by decide)) (o2 2 (by decide))
  refine lv_pop hx hb dL_law_596 rfl ?_
  refine lv_goto (tgt := 2159) hx hb dL_law_597 (by decide) ?_
  exact K S1 S4 H locs ls hG3 hG4 hR4 hP3 hP4 hS hl
set_option maxHeartbeats 4000000 in
set_option maxRecDepth 100000 in
theorem law_case_10 {p : Program} {l : Launch} {e : Env} {s : State} {m : MethodId} {below : List Frame} {meth : Method} {c : Code} {b L : Nat} {xs : Nat → Int32} (C0 : lw_At p s m meth c b L xs) {g : GG} {tt : TT} {ad1 ad2 : Nat → Nat} (hK : KK g s) (hT : TW tt (fun q : Nat => s.heap.size ≤ q) s s.heap) (hD1 : Dj ad1 122) (hD2 : Dj ad2 20) (hA1 : ∀ i, i < 122 → (fun q : Nat => s.heap.size ≤ q) (ad1 i)) (hA2 : ∀ i, i < 20 → (fun q : Nat => s.heap.size ≤ q) (ad2 i)) (hne : ∀ i j, i < 122 → j < 20 → ad1 i ≠ ad2 j) {i : Nat} (hi : i + 6 ≤ L) (hL : L ≤ 3072) {S1 S2 : SS} (hG1 : GX g ad1 S1) (hG2 : GM g ad2 S2) (hR : RR S1 S2) {H : Heap} {locs : List Loc} (hP1 : PW g ad1 122 S1 H) (hP2 : PW g ad2 20 S2 H) (hS : va_S (fun q : Nat => s.heap.size ≤ q) s.heap H locs) {ls : Array Slot} (hl : lv_has ls 4 [(0, .ref b), (1, .ref (ad1 0)), (2, .ref (ad2 0)), (3, .int (nI i))]) (K : (∀ (S1 S2 : SS) (H : Heap) (locs : List Loc) (ls : Array Slot), GX g ad1 S1 → GM g ad2 S2 → RR S1 S2 → PW g ad1 122 S1 H → PW g ad2 20 S2 H → va_S (fun q : Nat => s.heap.size ≤ q) s.heap H locs → lv_has ls 4 [(0, .ref b), (1, .ref (ad1 0)), (2, .ref (ad2 0)), (3, .int (nI i))] → W p l e room_1 s m #[Value.ref b] below meth c H locs 142 12631 (lw_Z below #[Value.ref b] s) (F0 m 2159 ls []))) : W p l e room_1 s m #[Value.ref b] below meth c H locs 142 12631 (lw_Z below #[Value.ref b] s) (F0 m 600 ls []) := by
  obtain ⟨hx, hb, hr, hml, hown, hts, hX, hbl, hlocks, hgv⟩ := id C0
  have hbA : ¬ (fun q : Nat => s.heap.size ≤ q) b := Nat.not_le.mpr hbl
  have E : Ev p s m #[Value.ref b] c cL_law "EbbWreckLaw" g := ⟨hx, hb, hown, fun w h => hts w (List.mem_filter.mp h).1, hK⟩
  refine lv_aload_n hx hb dL_law_600 rfl (lv_at hl 1 rfl) ?_
  refine lv_aload_n hx hb dL_law_601 rfl (lv_at hl 0 rfl) ?_
  refine lv_iload_n hx hb dL_law_602 rfl (lv_at hl 3 rfl) ?_
  refine lv_iconst (v := 1) hx hb dL_law_603 (by decide) ?_
  refine lv_iadd hx hb dL_law_604 ?_
  refine sb_at (P := fun z => W _ _ _ _ _ _ _ _ _ _ _ _ _ _ _ (F0 _ _ _ (.int z :: _))) (nI_add i 1) ?_
  refine va_sld hx hb hX hbl hbA hS (vp_in_nI (show i + 1 < L by omega) (by omega)) dL_law_605 ?_
  refine sb_at (P := fun z => W _ _ _ _ _ _ _ _ _ _ _ _ _ _ _ (F0 _ _ _ (.int z :: _))) (show xs (nI (i + 1)).toNatClampNeg = xs (i + 1) by rw [nI_clamp (by omega)]) ?_
  refine lv_aload_n hx hb dL_law_606 rfl (lv_at hl 0 rfl) ?_
  refine lv_iload_n hx hb dL_law_607 rfl (lv_at hl 3 rfl) ?_
  refine lv_iconst (v := 2) hx hb dL_law_608 (by decide) ?_
  refine lv_iadd hx hb dL_law_609 ?_
  refine sb_at (P := fun z => W _ _ _ _ _ _ _ _ _ _ _ _ _ _ _ (F0 _ _ _ (.int z :: _))) (nI_add i 2) ?_
  refine va_sld hx hb hX hbl hbA hS (vp_in_nI (show i + 2 < L by omega) (by omega)) dL_law_610 ?_
  refine sb_at (P := fun z => W _ _ _ _ _ _ _ _ _ _ _ _ _ _ _ (F0 _ _ _ (.int z :: _))) (show xs (nI (i + 2)).toNatClampNeg = xs (i + 2) by rw [nI_clamp (by omega)]) ?_
  obtain ⟨hI1, r2, r39, r57, r75, ar2, ar39, ar57, ar75⟩ := id hG1
  obtain ⟨_, _, _, cc1, _⟩ := invX_0 hI1
  refine xcVi E ⟨hD1, hA1⟩ (⟨hP1, hS⟩ : Hp g ad1 122 S1 (fun q : Nat => s.heap.size ≤ q) s.heap H locs) hml hl.1 0 (gX11_drifts_0 l g ad1 hD1 S1 hI1 (xs (i + 1)) (xs (i + 2)) (by omega) (by omega) (by omega)) mX11_drifts q918 (by decide) cc1 rfl rfl ⟨(Nat.le_of_ble_eq_true rfl), (Nat.le_of_ble_eq_true rfl)⟩ ⟨(Nat.le_of_ble_eq_true rfl), (Nat.le_of_ble_eq_true rfl)⟩ (Nat.le_of_ble_eq_true rfl) rfl dL_law_611 (fun r1 S3 H locs hp1 hQ1 hk1 => ?_)
  obtain ⟨rfl, bb1⟩ := hp1
  have hG3 := hG1
  have hP3 : PW g ad1 122 S1 H := hQ1.1
  have hS := hQ1.2
  have hP2 : PW g ad2 20 S2 H := pw_kept hP2 hk1 hne
  refine lv_pop hx hb dL_law_614 rfl ?_
  refine lv_aload_n hx hb dL_law_615 rfl (lv_at hl 2 rfl) ?_
  refine lv_aload_n hx hb dL_law_616 rfl (lv_at hl 0 rfl) ?_
  refine lv_iload_n hx hb dL_law_617 rfl (lv_at hl 3 rfl) ?_
  refine lv_iconst (v := 1) hx hb dL_law_618 (by decide) ?_
  refine lv_iadd hx hb dL_law_619 ?_
  refine sb_at (P := fun z => W _ _ _ _ _ _ _ _ _ _ _ _ _ _ _ (F0 _ _ _ (.int z :: _))) (nI_add i 1) ?_
  refine va_sld hx hb hX hbl hbA hS (vp_in_nI (show i + 1 < L by omega) (by omega)) dL_law_620 ?_
  refine sb_at (P := fun z => W _ _ _ _ _ _ _ _ _ _ _ _ _ _ _ (F0 _ _ _ (.int z :: _))) (show xs (nI (i + 1)).toNatClampNeg = xs (i + 1) by rw [nI_clamp (by omega)]) ?_
  refine lv_aload_n hx hb dL_law_621 rfl (lv_at hl 0 rfl) ?_
  refine lv_iload_n hx hb dL_law_622 rfl (lv_at hl 3 rfl) ?_
  refine lv_iconst (v := 2) hx hb dL_law_623 (by decide) ?_
  refine lv_iadd hx hb dL_law_624 ?_
  refine sb_at (P := fun z => W _ _ _ _ _ _ _ _ _ _ _ _ _ _ _ (F0 _ _ _ (.int z :: _))) (nI_add i 2) ?_
  refine va_sld hx hb hX hbl hbA hS (vp_in_nI (show i + 2 < L by omega) (by omega)) dL_law_625 ?_
  refine sb_at (P := fun z => W _ _ _ _ _ _ _ _ _ _ _ _ _ _ _ (F0 _ _ _ (.int z :: _))) (show xs (nI (i + 2)).toNatClampNeg = xs (i + 2) by rw [nI_clamp (by omega)]) ?_
  obtain ⟨hI2, t0, t1, t2, t3, at0, at1, at2, at3, ht0, ht1, ht2, ht3⟩ := id hG2
  obtain ⟨_, _, _, _, _, _, _, _, _, _, _, _, _, _, _, _, _, _, _, cc2, _, _, _, _, _, _, _, _, _⟩ := invM_0 hI2
  refine xcVi E ⟨hD2, hA2⟩ (⟨hP2, hS⟩ : Hp g ad2 20 S2 (fun q : Nat => s.heap.size ≤ q) s.heap H locs) hml hl.1 0 (gX12_drifts_0 l g ad2 hD2 S2 hI2 (xs (i + 1)) (xs (i + 2)) (by omega) (by omega) (by omega) (by omega) (by omega)) mX12_drifts q1800 (by decide) cc2 rfl rfl ⟨(Nat.le_of_ble_eq_true rfl), (Nat.le_of_ble_eq_true rfl)⟩ ⟨(Nat.le_of_ble_eq_true rfl), (Nat.le_of_ble_eq_true rfl)⟩ (Nat.le_of_ble_eq_true rfl) rfl dL_law_626 (fun r2 S4 H locs hp2 hQ2 hk2 => ?_)
  obtain ⟨hI4, o2, bb2⟩ := hp2
  have hG4 : GM g ad2 S4 := ⟨hI4, (by rw [o2 6 (by decide), o2 7 (by decide)]; exact t0), (by rw [o2 6 (by decide), o2 7 (by decide)]; exact t1), (by rw [o2 6 (by decide), o2 7 (by decide)]; exact t2), (by rw [o2 6 (by decide), o2 7 (by decide)]; exact t3), (at_tr at0 (o2 7 (by decide)) (o2 12 (by decide))), (at_tr at1 (o2 7 (by decide)) (o2 12 (by decide))), (at_tr at2 (o2 7 (by decide)) (o2 12 (by decide))), (at_tr at3 (o2 7 (by decide)) (o2 12 (by decide))), (ht_tr ht0 (o2 7 (by decide)) (o2 9 (by decide))), (ht_tr ht1 (o2 7 (by decide)) (o2 9 (by decide))), (ht_tr ht2 (o2 7 (by decide)) (o2 9 (by decide))), (ht_tr ht3 (o2 7 (by decide)) (o2 9 (by decide)))⟩
  have hS := hQ2.2
  have hP4 : PW g ad2 20 S4 H := hQ2.1
  have hP3 : PW g ad1 122 S1 H := pw_kept hP3 hk2 (fun i j hi hj e => hne j i hj hi e.symm)
  have hR4 : RR S1 S4 := rr_eq hR rfl rfl rfl (o2 13 (by decide)) (o2 1 (by decide)) (o2 2 (by decide))
  refine lv_pop hx hb dL_law_629 rfl ?_
  refine lv_goto (tgt := 2159) hx hb dL_law_630 (by decide) ?_
  exact K S1 S4 H locs ls hG3 hG4 hR4 hP3 hP4 hS hl
set_option maxHeartbeats 4000000 in
set_option maxRecDepth 100000 in
theorem law_case_11 {p : Program} {l : Launch} {e : Env} {s : State} {m : MethodId} {below : List Frame} {meth : Method} {c : Code} {b L : Nat} {xs : Nat → Int32} (C0 : lw_At p s m meth c b L xs) {g : GG} {tt : TT} {ad1 ad2 : Nat → Nat} (hK : KK g s) (hT : TW tt (fun q : Nat => s.heap.size ≤ q) s s.heap) (hD1 : Dj ad1 122) (hD2 : Dj ad2 20) (hA1 : ∀ i, i < 122 → (fun q : Nat => s.heap.size ≤ q) (ad1 i)) (hA2 : ∀ i, i < 20 → (fun q : Nat => s.heap.size ≤ q) (ad2 i)) (hne : ∀ i j, i < 122 → j < 20 → ad1 i ≠ ad2 j) {i : Nat} (hi : i + 6 ≤ L) (hL : L ≤ 3072) {S1 S2 : SS} (hG1 : GX g ad1 S1) (hG2 : GM g ad2 S2) (hR : RR S1 S2) {H : Heap} {locs : List Loc} (hP1 : PW g ad1 122 S1 H) (hP2 : PW g ad2 20 S2 H) (hS : va_S (fun q : Nat => s.heap.size ≤ q) s.heap H locs) {ls : Array Slot} (hl : lv_has ls 4 [(0, .ref b), (1, .ref (ad1 0)), (2, .ref (ad2 0)), (3, .int (nI i))]) (K : (∀ (S1 S2 : SS) (H : Heap) (locs : List Loc) (ls : Array Slot), GX g ad1 S1 → GM g ad2 S2 → RR S1 S2 → PW g ad1 122 S1 H → PW g ad2 20 S2 H → va_S (fun q : Nat => s.heap.size ≤ q) s.heap H locs → lv_has ls 4 [(0, .ref b), (1, .ref (ad1 0)), (2, .ref (ad2 0)), (3, .int (nI i))] → W p l e room_1 s m #[Value.ref b] below meth c H locs 142 12631 (lw_Z below #[Value.ref b] s) (F0 m 2159 ls []))) : W p l e room_1 s m #[Value.ref b] below meth c H locs 142 12631 (lw_Z below #[Value.ref b] s) (F0 m 633 ls []) := by
  obtain ⟨hx, hb, hr, hml, hown, hts, hX, hbl, hlocks, hgv⟩ := id C0
  have hbA : ¬ (fun q : Nat => s.heap.size ≤ q) b := Nat.not_le.mpr hbl
  have E : Ev p s m #[Value.ref b] c cL_law "EbbWreckLaw" g := ⟨hx, hb, hown, fun w h => hts w (List.mem_filter.mp h).1, hK⟩
  refine lv_aload_n hx hb dL_law_633 rfl (lv_at hl 1 rfl) ?_
  refine lv_aload_n hx hb dL_law_634 rfl (lv_at hl 0 rfl) ?_
  refine lv_iload_n hx hb dL_law_635 rfl (lv_at hl 3 rfl) ?_
  refine lv_iconst (v := 1) hx hb dL_law_636 (by decide) ?_
  refine lv_iadd hx hb dL_law_637 ?_
  refine sb_at (P := fun z => W _ _ _ _ _ _ _ _ _ _ _ _ _ _ _ (F0 _ _ _ (.int z :: _))) (nI_add i 1) ?_
  refine va_sld hx hb hX hbl hbA hS (vp_in_nI (show i + 1 < L by omega) (by omega)) dL_law_638 ?_
  refine sb_at (P := fun z => W _ _ _ _ _ _ _ _ _ _ _ _ _ _ _ (F0 _ _ _ (.int z :: _))) (show xs (nI (i + 1)).toNatClampNeg = xs (i + 1) by rw [nI_clamp (by omega)]) ?_
  refine lv_aload_n hx hb dL_law_639 rfl (lv_at hl 0 rfl) ?_
  refine lv_iload_n hx hb dL_law_640 rfl (lv_at hl 3 rfl) ?_
  refine lv_iconst (v := 2) hx hb dL_law_641 (by decide) ?_
  refine lv_iadd hx hb dL_law_642 ?_
  refine sb_at (P := fun z => W _ _ _ _ _ _ _ _ _ _ _ _ _ _ _ (F0 _ _ _ (.int z :: _))) (nI_add i 2) ?_
  refine va_sld hx hb hX hbl hbA hS (vp_in_nI (show i + 2 < L by omega) (by omega)) dL_law_643 ?_
  refine sb_at (P := fun z => W _ _ _ _ _ _ _ _ _ _ _ _ _ _ _ (F0 _ _ _ (.int z :: _))) (show xs (nI (i + 2)).toNatClampNeg = xs (i + 2) by rw [nI_clamp (by omega)]) ?_
  obtain ⟨hI1, r2, r39, r57, r75, ar2, ar39, ar57, ar75⟩ := id hG1
  obtain ⟨_, _, _, cc1, _⟩ := invX_0 hI1
  refine xcVi E ⟨hD1, hA1⟩ (⟨hP1, hS⟩ : Hp g ad1 122 S1 (fun q : Nat => s.heap.size ≤ q) s.heap H locs) hml hl.1 0 (gX11_at_0 l g ad1 hD1 S1 hI1 (xs (i + 1)) (xs (i + 2)) (by omega) (by omega) (by omega)) mX11_at q923 (by decide) cc1 rfl rfl ⟨(Nat.le_of_ble_eq_true rfl), (Nat.le_of_ble_eq_true rfl)⟩ ⟨(Nat.le_of_ble_eq_true rfl), (Nat.le_of_ble_eq_true rfl)⟩ (Nat.le_of_ble_eq_true rfl) rfl dL_law_644 (fun r1 S3 H locs hp1 hQ1 hk1 => ?_)
  obtain ⟨hI3, o1, bb1⟩ := hp1
  have hG3 : GX g ad1 S3 := ⟨hI3, (by rw [o1 2 (by decide)]; exact r2), (by rw [o1 39 (by decide)]; exact r39), (by rw [o1 57 (by decide)]; exact r57), (by rw [o1 75 (by decide)]; exact r75), (ar_tr ar2 (o1 16 (by decide)) (o1 17 (by decide)) (o1 18 (by decide)) (o1 19 (by decide))), (ar_tr ar39 (o1 53 (by decide)) (o1 54 (by decide)) (o1 55 (by decide)) (o1 56 (by decide))), (ar_tr ar57 (o1 71 (by decide)) (o1 72 (by decide)) (o1 73 (by decide)) (o1 74 (by decide))), (ar_tr ar75 (o1 89 (by decide)) (o1 90 (by decide)) (o1 91 (by decide)) (o1 92 (by decide)))⟩
  have hP3 : PW g ad1 122 S3 H := hQ1.1
  have hS := hQ1.2
  have hP2 : PW g ad2 20 S2 H := pw_kept hP2 hk1 hne
  refine lv_pop hx hb dL_law_647 rfl ?_
  refine lv_aload_n hx hb dL_law_648 rfl (lv_at hl 2 rfl) ?_
  refine lv_aload_n hx hb dL_law_649 rfl (lv_at hl 0 rfl) ?_
  refine lv_iload_n hx hb dL_law_650 rfl (lv_at hl 3 rfl) ?_
  refine lv_iconst (v := 1) hx hb dL_law_651 (by decide) ?_
  refine lv_iadd hx hb dL_law_652 ?_
  refine sb_at (P := fun z => W _ _ _ _ _ _ _ _ _ _ _ _ _ _ _ (F0 _ _ _ (.int z :: _))) (nI_add i 1) ?_
  refine va_sld hx hb hX hbl hbA hS (vp_in_nI (show i + 1 < L by omega) (by omega)) dL_law_653 ?_
  refine sb_at (P := fun z => W _ _ _ _ _ _ _ _ _ _ _ _ _ _ _ (F0 _ _ _ (.int z :: _))) (show xs (nI (i + 1)).toNatClampNeg = xs (i + 1) by rw [nI_clamp (by omega)]) ?_
  refine lv_aload_n hx hb dL_law_654 rfl (lv_at hl 0 rfl) ?_
  refine lv_iload_n hx hb dL_law_655 rfl (lv_at hl 3 rfl) ?_
  refine lv_iconst (v := 2) hx hb dL_law_656 (by decide) ?_
  refine lv_iadd hx hb dL_law_657 ?_
  refine sb_at (P := fun z => W _ _ _ _ _ _ _ _ _ _ _ _ _ _ _ (F0 _ _ _ (.int z :: _))) (nI_add i 2) ?_
  refine va_sld hx hb hX hbl hbA hS (vp_in_nI (show i + 2 < L by omega) (by omega)) dL_law_658 ?_
  refine sb_at (P := fun z => W _ _ _ _ _ _ _ _ _ _ _ _ _ _ _ (F0 _ _ _ (.int z :: _))) (show xs (nI (i + 2)).toNatClampNeg = xs (i + 2) by rw [nI_clamp (by omega)]) ?_
  obtain ⟨hI2, t0, t1, t2, t3, at0, at1, at2, at3, ht0, ht1, ht2, ht3⟩ := id hG2
  obtain ⟨_, _, _, _, _, _, _, _, _, _, _, _, _, _, _, _, _, _, _, cc2, _, _, _, _, _, _, _, _, _⟩ := invM_0 hI2
  refine xcVi E ⟨hD2, hA2⟩ (⟨hP2, hS⟩ : Hp g ad2 20 S2 (fun q : Nat => s.heap.size ≤ q) s.heap H locs) hml hl.1 0 (gX12_at_0 l g ad2 hD2 S2 hI2 (xs (i + 1)) (xs (i + 2)) (by omega) (by omega) (by omega) (by omega) (by omega) at0) mX12_at q1824 (by decide) cc2 rfl rfl ⟨(Nat.le_of_ble_eq_true rfl), (Nat.le_of_ble_eq_true rfl)⟩ ⟨(Nat.le_of_ble_eq_true rfl), (Nat.le_of_ble_eq_true rfl)⟩ (Nat.le_of_ble_eq_true rfl) rfl dL_law_659 (fun r2 S4 H locs hp2 hQ2 hk2 => ?_)
  obtain ⟨hI4, o2, bb2⟩ := hp2
  have hG4 : GM g ad2 S4 := ⟨hI4, (by rw [o2 6 (by decide), o2 7 (by decide)]; exact t0), (by rw [o2 6 (by decide), o2 7 (by decide)]; exact t1), (by rw [o2 6 (by decide), o2 7 (by decide)]; exact t2), (by rw [o2 6 (by decide), o2 7 (by decide)]; exact t3), (at_tr at0 (o2 7 (by decide)) (o2 12 (by decide))), (at_tr at1 (o2 7 (by decide)) (o2 12 (by decide))), (at_tr at2 (o2 7 (by decide)) (o2 12 (by decide))), (at_tr at3 (o2 7 (by decide)) (o2 12 (by decide))), (ht_tr ht0 (o2 7 (by decide)) (o2 9 (by decide))), (ht_tr ht1 (o2 7 (by decide)) (o2 9 (by decide))), (ht_tr ht2 (o2 7 (by decide)) (o2 9 (by decide))), (ht_tr ht3 (o2 7 (by decide)) (o2 9 (by decide)))⟩
  have hS := hQ2.2
  have hP4 : PW g ad2 20 S4 H := hQ2.1
  have hP3 : PW g ad1 122 S3 H := pw_kept hP3 hk2 (fun i j hi hj e => hne j i hj hi e.symm)
  have hR4 : RR S3 S4 := rr_eq hR (o1 93 (by decide)) (o1 117 (by decide)) (o1 118 (by decide)) (o2 13 (by decide)) (o2 1 (by decide)) (o2 2 (by decide))
  refine lv_pop hx hb dL_law_662 rfl ?_
  refine lv_goto (tgt := 2159) hx hb dL_law_663 (by decide) ?_
  exact K S3 S4 H locs ls hG3 hG4 hR4 hP3 hP4 hS hl
set_option maxHeartbeats 4000000 in
set_option maxRecDepth 100000 in
theorem law_case_12 {p : Program} {l : Launch} {e : Env} {s : State} {m : MethodId} {below : List Frame} {meth : Method} {c : Code} {b L : Nat} {xs : Nat → Int32} (C0 : lw_At p s m meth c b L xs) {g : GG} {tt : TT} {ad1 ad2 : Nat → Nat} (hK : KK g s) (hT : TW tt (fun q : Nat => s.heap.size ≤ q) s s.heap) (hD1 : Dj ad1 122) (hD2 : Dj ad2 20) (hA1 : ∀ i, i < 122 → (fun q : Nat => s.heap.size ≤ q) (ad1 i)) (hA2 : ∀ i, i < 20 → (fun q : Nat => s.heap.size ≤ q) (ad2 i)) (hne : ∀ i j, i < 122 → j < 20 → ad1 i ≠ ad2 j) {i : Nat} (hi : i + 6 ≤ L) (hL : L ≤ 3072) {S1 S2 : SS} (hG1 : GX g ad1 S1) (hG2 : GM g ad2 S2) (hR : RR S1 S2) {H : Heap} {locs : List Loc} (hP1 : PW g ad1 122 S1 H) (hP2 : PW g ad2 20 S2 H) (hS : va_S (fun q : Nat => s.heap.size ≤ q) s.heap H locs) {ls : Array Slot} (hl : lv_has ls 4 [(0, .ref b), (1, .ref (ad1 0)), (2, .ref (ad2 0)), (3, .int (nI i))]) (K : (∀ (S1 S2 : SS) (H : Heap) (locs : List Loc) (ls : Array Slot), GX g ad1 S1 → GM g ad2 S2 → RR S1 S2 → PW g ad1 122 S1 H → PW g ad2 20 S2 H → va_S (fun q : Nat => s.heap.size ≤ q) s.heap H locs → lv_has ls 4 [(0, .ref b), (1, .ref (ad1 0)), (2, .ref (ad2 0)), (3, .int (nI i))] → W p l e room_1 s m #[Value.ref b] below meth c H locs 142 12631 (lw_Z below #[Value.ref b] s) (F0 m 2159 ls []))) : W p l e room_1 s m #[Value.ref b] below meth c H locs 142 12631 (lw_Z below #[Value.ref b] s) (F0 m 666 ls []) := by
  obtain ⟨hx, hb, hr, hml, hown, hts, hX, hbl, hlocks, hgv⟩ := id C0
  have hbA : ¬ (fun q : Nat => s.heap.size ≤ q) b := Nat.not_le.mpr hbl
  have E : Ev p s m #[Value.ref b] c cL_law "EbbWreckLaw" g := ⟨hx, hb, hown, fun w h => hts w (List.mem_filter.mp h).1, hK⟩
  refine lv_aload_n hx hb dL_law_666 rfl (lv_at hl 1 rfl) ?_
  refine lv_aload_n hx hb dL_law_667 rfl (lv_at hl 0 rfl) ?_
  refine lv_iload_n hx hb dL_law_668 rfl (lv_at hl 3 rfl) ?_
  refine lv_iconst (v := 1) hx hb dL_law_669 (by decide) ?_
  refine lv_iadd hx hb dL_law_670 ?_
  refine sb_at (P := fun z => W _ _ _ _ _ _ _ _ _ _ _ _ _ _ _ (F0 _ _ _ (.int z :: _))) (nI_add i 1) ?_
  refine va_sld hx hb hX hbl hbA hS (vp_in_nI (show i + 1 < L by omega) (by omega)) dL_law_671 ?_
  refine sb_at (P := fun z => W _ _ _ _ _ _ _ _ _ _ _ _ _ _ _ (F0 _ _ _ (.int z :: _))) (show xs (nI (i + 1)).toNatClampNeg = xs (i + 1) by rw [nI_clamp (by omega)]) ?_
  obtain ⟨hI1, r2, r39, r57, r75, ar2, ar39, ar57, ar75⟩ := id hG1
  obtain ⟨_, _, _, cc1, _⟩ := invX_0 hI1
  refine xcVi E ⟨hD1, hA1⟩ (⟨hP1, hS⟩ : Hp g ad1 122 S1 (fun q : Nat => s.heap.size ≤ q) s.heap H locs) hml hl.1 0 (gX11_comes_0 l g ad1 hD1 S1 hI1 (xs (i + 1)) (by omega) (by omega) (by omega)) mX11_comes q931 (by decide) cc1 rfl rfl ⟨(Nat.le_of_ble_eq_true rfl), (Nat.le_of_ble_eq_true rfl)⟩ ⟨(Nat.le_of_ble_eq_true rfl), (Nat.le_of_ble_eq_true rfl)⟩ (Nat.le_of_ble_eq_true rfl) rfl dL_law_672 (fun r1 S3 H locs hp1 hQ1 hk1 => ?_)
  subst hp1
  have hG3 := hG1
  have hP3 : PW g ad1 122 S1 H := hQ1.1
  have hS := hQ1.2
  have hP2 : PW g ad2 20 S2 H := pw_kept hP2 hk1 hne
  refine lv_pop hx hb dL_law_675 rfl ?_
  refine lv_aload_n hx hb dL_law_676 rfl (lv_at hl 2 rfl) ?_
  refine lv_aload_n hx hb dL_law_677 rfl (lv_at hl 0 rfl) ?_
  refine lv_iload_n hx hb dL_law_678 rfl (lv_at hl 3 rfl) ?_
  refine lv_iconst (v := 1) hx hb dL_law_679 (by decide) ?_
  refine lv_iadd hx hb dL_law_680 ?_
  refine sb_at (P := fun z => W _ _ _ _ _ _ _ _ _ _ _ _ _ _ _ (F0 _ _ _ (.int z :: _))) (nI_add i 1) ?_
  refine va_sld hx hb hX hbl hbA hS (vp_in_nI (show i + 1 < L by omega) (by omega)) dL_law_681 ?_
  refine sb_at (P := fun z => W _ _ _ _ _ _ _ _ _ _ _ _ _ _ _ (F0 _ _ _ (.int z :: _))) (show xs (nI (i + 1)).toNatClampNeg = xs (i + 1) by rw [nI_clamp (by omega)]) ?_
  obtain ⟨hI2, t0, t1, t2, t3, at0, at1, at2, at3, ht0, ht1, ht2, ht3⟩ := id hG2
  obtain ⟨_, _, _, _, _, _, _, _, _, _, _, _, _, _, _, _, _, _, _, cc2, _, _, _, _, _, _, _, _, _⟩ := invM_0 hI2
  refine xcVi E ⟨hD2, hA2⟩ (⟨hP2, hS⟩ : Hp g ad2 20 S2 (fun q : Nat => s.heap.size ≤ q) s.heap H locs) hml hl.1 0 (gX12_comes_0 l g ad2 hD2 S2 hI2 (xs (i + 1)) (by omega) (by omega) (by omega) (by omega) (by omega) at0) mX12_comes q1842 (by decide) cc2 rfl rfl ⟨(Nat.le_of_ble_eq_true rfl), (Nat.le_of_ble_eq_true rfl)⟩ ⟨(Nat.le_of_ble_eq_true rfl), (Nat.le_of_ble_eq_true rfl)⟩ (Nat.le_of_ble_eq_true rfl) rfl dL_law_682 (fun r2 S4 H locs hp2 hQ2 hk2 => ?_)
  obtain ⟨hI4, o2, bb2⟩ := hp2
  have hG4 : GM g ad2 S4 := ⟨hI4, (by rw [o2 6 (by decide), o2 7 (by decide)]; exact t0), (by rw [o2 6 (by decide), o2 7 (by decide)]; exact t1), (by rw [o2 6 (by decide), o2 7 (by decide)]; exact t2), (by rw [o2 6 (by decide), o2 7 (by decide)]; exact t3), (at_tr at0 (o2 7 (by decide)) (o2 12 (by decide))), (at_tr at1 (o2 7 (by decide)) (o2 12 (by decide))), (at_tr at2 (o2 7 (by decide)) (o2 12 (by decide))), (at_tr at3 (o2 7 (by decide)) (o2 12 (by decide))), (ht_tr ht0 (o2 7 (by decide)) (o2 9 (by decide))), (ht_tr ht1 (o2 7 (by decide)) (o2 9 (by decide))), (ht_tr ht2 (o2 7 (by decide)) (o2 9 (by decide))), (ht_tr ht3 (o2 7 (by decide)) (o2 9 (by decide)))⟩
  have hS := hQ2.2
  have hP4 : PW g ad2 20 S4 H := hQ2.1
  have hP3 : PW g ad1 122 S1 H := pw_kept hP3 hk2 (fun i j hi hj e => hne j i hj hi e.symm)
  have hR4 : RR S1 S4 := rr_eq hR rfl rfl rfl (o2 13 (by decide)) (o2 1 (by decide)) (o2 2 (by decide))
  refine lv_pop hx hb dL_law_685 rfl ?_
  refine lv_goto (tgt := 2159) hx hb dL_law_686 (by decide) ?_
  exact K S1 S4 H locs ls hG3 hG4 hR4 hP3 hP4 hS hl
set_option maxHeartbeats 4000000 in
set_option maxRecDepth 100000 in
theorem law_case_13 {p : Program} {l : Launch} {e : Env} {s : State} {m : MethodId} {below : List Frame} {meth : Method} {c : Code} {b L : Nat} {xs : Nat → Int32} (C0 : lw_At p s m meth c b L xs) {g : GG} {tt : TT} {ad1 ad2 : Nat → Nat} (hK : KK g s) (hT : TW tt (fun q : Nat => s.heap.size ≤ q) s s.heap) (hD1 : Dj ad1 122) (hD2 : Dj ad2 20) (hA1 : ∀ i, i < 122 → (fun q : Nat => s.heap.size ≤ q) (ad1 i)) (hA2 : ∀ i, i < 20 → (fun q : Nat => s.heap.size ≤ q) (ad2 i)) (hne : ∀ i j, i < 122 → j < 20 → ad1 i ≠ ad2 j) {i : Nat} (hi : i + 6 ≤ L) (hL : L ≤ 3072) {S1 S2 : SS} (hG1 : GX g ad1 S1) (hG2 : GM g ad2 S2) (hR : RR S1 S2) {H : Heap} {locs : List Loc} (hP1 : PW g ad1 122 S1 H) (hP2 : PW g ad2 20 S2 H) (hS : va_S (fun q : Nat => s.heap.size ≤ q) s.heap H locs) {ls : Array Slot} (hl : lv_has ls 4 [(0, .ref b), (1, .ref (ad1 0)), (2, .ref (ad2 0)), (3, .int (nI i))]) (K : (∀ (S1 S2 : SS) (H : Heap) (locs : List Loc) (ls : Array Slot), GX g ad1 S1 → GM g ad2 S2 → RR S1 S2 → PW g ad1 122 S1 H → PW g ad2 20 S2 H → va_S (fun q : Nat => s.heap.size ≤ q) s.heap H locs → lv_has ls 4 [(0, .ref b), (1, .ref (ad1 0)), (2, .ref (ad2 0)), (3, .int (nI i))] → W p l e room_1 s m #[Value.ref b] below meth c H locs 142 12631 (lw_Z below #[Value.ref b] s) (F0 m 2159 ls []))) : W p l e room_1 s m #[Value.ref b] below meth c H locs 142 12631 (lw_Z below #[Value.ref b] s) (F0 m 689 ls []) := by
  obtain ⟨hx, hb, hr, hml, hown, hts, hX, hbl, hlocks, hgv⟩ := id C0
  have hbA : ¬ (fun q : Nat => s.heap.size ≤ q) b := Nat.not_le.mpr hbl
  have E : Ev p s m #[Value.ref b] c cL_law "EbbWreckLaw" g := ⟨hx, hb, hown, fun w h => hts w (List.mem_filter.mp h).1, hK⟩
  refine lv_aload_n hx hb dL_law_689 rfl (lv_at hl 1 rfl) ?_
  refine lv_aload_n hx hb dL_law_690 rfl (lv_at hl 0 rfl) ?_
  refine lv_iload_n hx hb dL_law_691 rfl (lv_at hl 3 rfl) ?_
  refine lv_iconst (v := 1) hx hb dL_law_692 (by decide) ?_
  refine lv_iadd hx hb dL_law_693 ?_
  refine sb_at (P := fun z => W _ _ _ _ _ _ _ _ _ _ _ _ _ _ _ (F0 _ _ _ (.int z :: _))) (nI_add i 1) ?_
  refine va_sld hx hb hX hbl hbA hS (vp_in_nI (show i + 1 < L by omega) (by omega)) dL_law_694 ?_
  refine sb_at (P := fun z => W _ _ _ _ _ _ _ _ _ _ _ _ _ _ _ (F0 _ _ _ (.int z :: _))) (show xs (nI (i + 1)).toNatClampNeg = xs (i + 1) by rw [nI_clamp (by omega)]) ?_
  obtain ⟨hI1, r2, r39, r57, r75, ar2, ar39, ar57, ar75⟩ := id hG1
  obtain ⟨_, _, _, cc1, _⟩ := invX_0 hI1
  refine xcVi E ⟨hD1, hA1⟩ (⟨hP1, hS⟩ : Hp g ad1 122 S1 (fun q : Nat => s.heap.size ≤ q) s.heap H locs) hml hl.1 0 (gX11_beach_0 l g ad1 hD1 S1 hI1 (xs (i + 1)) (by omega) (by omega) (by omega)) mX11_beach q935 (by decide) cc1 rfl rfl ⟨(Nat.le_of_ble_eq_true rfl), (Nat.le_of_ble_eq_true rfl)⟩ ⟨(Nat.le_of_ble_eq_true rfl), (Nat.le_of_ble_eq_true rfl)⟩ (Nat.le_of_ble_eq_true rfl) rfl dL_law_695 (fun r1 S3 H locs hp1 hQ1 hk1 => ?_)
  subst hp1
  have hG3 := hG1
  have hP3 : PW g ad1 122 S1 H := hQ1.1
  have hS := hQ1.2
  have hP2 : PW g ad2 20 S2 H := pw_kept hP2 hk1 hne
  refine lv_pop hx hb dL_law_698 rfl ?_
  refine lv_aload_n hx hb dL_law_699 rfl (lv_at hl 2 rfl) ?_
  refine lv_aload_n hx hb dL_law_700 rfl (lv_at hl 0 rfl) ?_
  refine lv_iload_n hx hb dL_law_701 rfl (lv_at hl 3 rfl) ?_
  refine lv_iconst (v := 1) hx hb dL_law_702 (by decide) ?_
  refine lv_iadd hx hb dL_law_703 ?_
  refine sb_at (P := fun z => W _ _ _ _ _ _ _ _ _ _ _ _ _ _ _ (F0 _ _ _ (.int z :: _))) (nI_add i 1) ?_
  refine va_sld hx hb hX hbl hbA hS (vp_in_nI (show i + 1 < L by omega) (by omega)) dL_law_704 ?_
  refine sb_at (P := fun z => W _ _ _ _ _ _ _ _ _ _ _ _ _ _ _ (F0 _ _ _ (.int z :: _))) (show xs (nI (i + 1)).toNatClampNeg = xs (i + 1) by rw [nI_clamp (by omega)]) ?_
  obtain ⟨hI2, t0, t1, t2, t3, at0, at1, at2, at3, ht0, ht1, ht2, ht3⟩ := id hG2
  obtain ⟨_, _, _, _, _, _, _, _, _, _, _, _, _, _, _, _, _, _, _, cc2, _, _, _, _, _, _, _, _, _⟩ := invM_0 hI2
  refine xcVi E ⟨hD2, hA2⟩ (⟨hP2, hS⟩ : Hp g ad2 20 S2 (fun q : Nat => s.heap.size ≤ q) s.heap H locs) hml hl.1 0 (gX12_beach_0 l g ad2 hD2 S2 hI2 (xs (i + 1)) (by omega) (by omega) (by omega) (by omega) (by omega) at0) mX12_beach q1850 (by decide) cc2 rfl rfl ⟨(Nat.le_of_ble_eq_true rfl), (Nat.le_of_ble_eq_true rfl)⟩ ⟨(Nat.le_of_ble_eq_true rfl), (Nat.le_of_ble_eq_true rfl)⟩ (Nat.le_of_ble_eq_true rfl) rfl dL_law_705 (fun r2 S4 H locs hp2 hQ2 hk2 => ?_)
  obtain ⟨hI4, o2, bb2⟩ := hp2
  have hG4 : GM g ad2 S4 := ⟨hI4, (by rw [o2 6 (by decide), o2 7 (by decide)]; exact t0), (by rw [o2 6 (by decide), o2 7 (by decide)]; exact t1), (by rw [o2 6 (by decide), o2 7 (by decide)]; exact t2), (by rw [o2 6 (by decide), o2 7 (by decide)]; exact t3), (at_tr at0 (o2 7 (by decide)) (o2 12 (by decide))), (at_tr at1 (o2 7 (by decide)) (o2 12 (by decide))), (at_tr at2 (o2 7 (by decide)) (o2 12 (by decide))), (at_tr at3 (o2 7 (by decide)) (o2 12 (by decide))), (ht_tr ht0 (o2 7 (by decide)) (o2 9 (by decide))), (ht_tr ht1 (o2 7 (by decide)) (o2 9 (by decide))), (ht_tr ht2 (o2 7 (by decide)) (o2 9 (by decide))), (ht_tr ht3 (o2 7 (by decide)) (o2 9 (by decide)))⟩
  have hS := hQ2.2
  have hP4 : PW g ad2 20 S4 H := hQ2.1
  have hP3 : PW g ad1 122 S1 H := pw_kept hP3 hk2 (fun i j hi hj e => hne j i hj hi e.symm)
  have hR4 : RR S1 S4 := rr_eq hR rfl rfl rfl (o2 13 (by decide)) (o2 1 (by decide)) (o2 2 (by decide))
  refine lv_pop hx hb dL_law_708 rfl ?_
  refine lv_goto (tgt := 2159) hx hb dL_law_709 (by decide) ?_
  exact K S1 S4 H locs ls hG3 hG4 hR4 hP3 hP4 hS hl
set_option maxHeartbeats 4000000 in
set_option maxRecDepth 100000 in
theorem law_case_14 {p : Program} {l : Launch} {e : Env} {s : State} {m : MethodId} {below : List Frame} {meth : Method} {c : Code} {b L : Nat} {xs : Nat → Int32} (C0 : lw_At p s m meth c b L xs) {g : GG} {tt : TT} {ad1 ad2 : Nat → Nat} (hK : KK g s) (hT : TW tt (fun q : Nat => s.heap.size ≤ q) s s.heap) (hD1 : Dj ad1 122) (hD2 : Dj ad2 20) (hA1 : ∀ i, i < 122 → (fun q : Nat => s.heap.size ≤ q) (ad1 i)) (hA2 : ∀ i, i < 20 → (fun q : Nat => s.heap.size ≤ q) (ad2 i)) (hne : ∀ i j, i < 122 → j < 20 → ad1 i ≠ ad2 j) {i : Nat} (hi : i + 6 ≤ L) (hL : L ≤ 3072) {S1 S2 : SS} (hG1 : GX g ad1 S1) (hG2 : GM g ad2 S2) (hR : RR S1 S2) {H : Heap} {locs : List Loc} (hP1 : PW g ad1 122 S1 H) (hP2 : PW g ad2 20 S2 H) (hS : va_S (fun q : Nat => s.heap.size ≤ q) s.heap H locs) {ls : Array Slot} (hl : lv_has ls 4 [(0, .ref b), (1, .ref (ad1 0)), (2, .ref (ad2 0)), (3, .int (nI i))]) (K : (∀ (S1 S2 : SS) (H : Heap) (locs : List Loc) (ls : Array Slot), GX g ad1 S1 → GM g ad2 S2 → RR S1 S2 → PW g ad1 122 S1 H → PW g ad2 20 S2 H → va_S (fun q : Nat => s.heap.size ≤ q) s.heap H locs → lv_has ls 4 [(0, .ref b), (1, .ref (ad1 0)), (2, .ref (ad2 0)), (3, .int (nI i))] → W p l e room_1 s m #[Value.ref b] below meth c H locs 142 12631 (lw_Z below #[Value.ref b] s) (F0 m 2159 ls []))) : W p l e room_1 s m #[Value.ref b] below meth c H locs 142 12631 (lw_Z below #[Value.ref b] s) (F0 m 712 ls []) := by
  obtain ⟨hx, hb, hr, hml, hown, hts, hX, hbl, hlocks, hgv⟩ := id C0
  have hbA : ¬ (fun q : Nat => s.heap.size ≤ q) b := Nat.not_le.mpr hbl
  have E : Ev p s m #[Value.ref b] c cL_law "EbbWreckLaw" g := ⟨hx, hb, hown, fun w h => hts w (List.mem_filter.mp h).1, hK⟩
  refine lv_aload_n hx hb dL_law_712 rfl (lv_at hl 1 rfl) ?_
  refine lv_aload_n hx hb dL_law_713 rfl (lv_at hl 0 rfl) ?_
  refine lv_iload_n hx hb dL_law_714 rfl (lv_at hl 3 rfl) ?_
  refine lv_iconst (v := 1) hx hb dL_law_715 (by decide) ?_
  refine lv_iadd hx hb dL_law_716 ?_
  refine sb_at (P := fun z => W _ _ _ _ _ _ _ _ _ _ _ _ _ _ _ (F0 _ _ _ (.int z :: _))) (nI_add i 1) ?_
  refine va_sld hx hb hX hbl hbA hS (vp_in_nI (show i + 1 < L by omega) (by omega)) dL_law_717 ?_
  refine sb_at (P := fun z => W _ _ _ _ _ _ _ _ _ _ _ _ _ _ _ (F0 _ _ _ (.int z :: _))) (show xs (nI (i + 1)).toNatClampNeg = xs (i + 1) by rw [nI_clamp (by omega)]) ?_
  obtain ⟨hI1, r2, r39, r57, r75, ar2, ar39, ar57, ar75⟩ := id hG1
  obtain ⟨_, _, _, cc1, _⟩ := invX_0 hI1
  refine xcVi E ⟨hD1, hA1⟩ (⟨hP1, hS⟩ : Hp g ad1 122 S1 (fun q : Nat => s.heap.size ≤ q) s.heap H locs) hml hl.1 0 (gX11_whose_0 l g ad1 hD1 S1 hI1 (xs (i + 1)) (by omega) (by omega) (by omega)) mX11_whose q939 (by decide) cc1 rfl rfl ⟨(Nat.le_of_ble_eq_true rfl), (Nat.le_of_ble_eq_true rfl)⟩ ⟨(Nat.le_of_ble_eq_true rfl), (Nat.le_of_ble_eq_true rfl)⟩ (Nat.le_of_ble_eq_true rfl) rfl dL_law_718 (fun r1 S3 H locs hp1 hQ1 hk1 => ?_)
  subst hp1
  have hG3 := hG1
  have hP3 : PW g ad1 122 S1 H := hQ1.1
  have hS := hQ1.2
  have hP2 : PW g ad2 20 S2 H := pw_kept hP2 hk1 hne
  refine lv_pop hx hb dL_law_721 rfl ?_
  refine lv_aload_n hx hb dL_law_722 rfl (lv_at hl 2 rfl) ?_
  refine lv_aload_n hx hb dL_law_723 rfl (lv_at hl 0 rfl) ?_
  refine lv_iload_n hx hb dL_law_724 rfl (lv_at hl 3 rfl) ?_
  refine lv_iconst (v := 1) hx hb dL_law_725 (by decide) ?_
  refine lv_iadd hx hb dL_law_726 ?_
  refine sb_at (P := fun z => W _ _ _ _ _ _ _ _ _ _ _ _ _ _ _ (F0 _ _ _ (.int z :: _))) (nI_add i 1) ?_
  refine va_sld hx hb hX hbl hbA hS (vp_in_nI (show i + 1 < L by omega) (by omega)) dL_law_727 ?_
  refine sb_at (P := fun z => W _ _ _ _ _ _ _ _ _ _ _ _ _ _ _ (F0 _ _ _ (.int z :: _))) (show xs (nI (i + 1)).toNatClampNeg = xs (i + 1) by rw [nI_clamp (by omega)]) ?_
  obtain ⟨hI2, t0, t1, t2, t3, at0, at1, at2, at3, ht0, ht1, ht2, ht3⟩ := id hG2
  obtain ⟨_, _, _, _, _, _, _, _, _, _, _, _, _, _, _, _, _, _, _, cc2, _, _, _, _, _, _, _, _, _⟩ := invM_0 hI2
  refine xcVi E ⟨hD2, hA2⟩ (⟨hP2, hS⟩ : Hp g ad2 20 S2 (fun q : Nat => s.heap.size ≤ q) s.heap H locs) hml hl.1 0 (gX12_whose_0 l g ad2 hD2 S2 hI2 (xs (i + 1)) (by omega) (by omega) (by omega) (by omega) (by omega) at0) mX12_whose q1854 (by decide) cc2 rfl rfl ⟨(Nat.le_of_ble_eq_true rfl), (Nat.le_of_ble_eq_true rfl)⟩ ⟨(Nat.le_of_ble_eq_true rfl), (Nat.le_of_ble_eq_true rfl)⟩ (Nat.le_of_ble_eq_true rfl) rfl dL_law_728 (fun r2 S4 H locs hp2 hQ2 hk2 => ?_)
  obtain ⟨hI4, o2⟩ := hp2
  have hG4 : GM g ad2 S4 := ⟨hI4, (by rw [o2 6 (by decide), o2 7 (by decide)]; exact t0), (by rw [o2 6 (by decide), o2 7 (by decide)]; exact t1), (by rw [o2 6 (by decide), o2 7 (by decide)]; exact t2), (by rw [o2 6 (by decide), o2 7 (by decide)]; exact t3), (at_tr at0 (o2 7 (by decide)) (o2 12 (by decide))), (at_tr at1 (o2 7 (by decide)) (o2 12 (by decide))), (at_tr at2 (o2 7 (by decide)) (o2 12 (by decide))), (at_tr at3 (o2 7 (by decide)) (o2 12 (by decide))), (ht_tr ht0 (o2 7 (by decide)) (o2 9 (by decide))), (ht_tr ht1 (o2 7 (by decide)) (o2 9 (by decide))), (ht_tr ht2 (o2 7 (by decide)) (o2 9 (by decide))), (ht_tr ht3 (o2 7 (by decide)) (o2 9 (by decide)))⟩
  have hS := hQ2.2
  have hP4 : PW g ad2 20 S4 H := hQ2.1
  have hP3 : PW g ad1 122 S1 H := pw_kept hP3 hk2 (fun i j hi hj e => hne j i hj hi e.symm)
  have hR4 : RR S1 S4 := rr_eq hR rfl rfl rfl (o2 13 (by decide)) (o2 1 (by decide)) (o2 2 (by decide))
  refine lv_pop hx hb dL_law_731 rfl ?_
  refine lv_goto (tgt := 2159) hx hb dL_law_732 (by decide) ?_
  exact K S1 S4 H locs ls hG3 hG4 hR4 hP3 hP4 hS hl
set_option maxHeartbeats 4000000 in
set_option maxRecDepth 100000 in
theorem law_case_15 {p : Program} {l : Launch} {e : Env} {s : State} {m : MethodId} {below : List Frame} {meth : Method} {c : Code} {b L : Nat} {xs : Nat → Int32} (C0 : lw_At p s m meth c b L xs) {g : GG} {tt : TT} {ad1 ad2 : Nat → Nat} (hK : KK g s) (hT : TW tt (fun q : Nat => s.heap.size ≤ q) s s.heap) (hD1 : Dj ad1 122) (hD2 : Dj ad2 20) (hA1 : ∀ i, i < 122 → (fun q : Nat => s.heap.size ≤ q) (ad1 i)) (hA2 : ∀ i, i < 20 → (fun q : Nat => s.heap.size ≤ q) (ad2 i)) (hne : ∀ i j, i < 122 → j < 20 → ad1 i ≠ ad2 j) {i : Nat} (hi : i + 6 ≤ L) (hL : L ≤ 3072) {S1 S2 : SS} (hG1 : GX g ad1 S1) (hG2 : GM g ad2 S2) (hR : RR S1 S2) {H : Heap} {locs : List Loc} (hP1 : PW g ad1 122 S1 H) (hP2 : PW g ad2 20 S2 H) (hS : va_S (fun q : Nat => s.heap.size ≤ q) s.heap H locs) {ls : Array Slot} (hl : lv_has ls 4 [(0, .ref b), (1, .ref (ad1 0)), (2, .ref (ad2 0)), (3, .int (nI i))]) (K : (∀ (S1 S2 : SS) (H : Heap) (locs : List Loc) (ls : Array Slot), GX g ad1 S1 → GM g ad2 S2 → RR S1 S2 → PW g ad1 122 S1 H → PW g ad2 20 S2 H → va_S (fun q : Nat => s.heap.size ≤ q) s.heap H locs → lv_has ls 4 [(0, .ref b), (1, .ref (ad1 0)), (2, .ref (ad2 0)), (3, .int (nI i))] → W p l e room_1 s m #[Value.ref b] below meth c H locs 142 12631 (lw_Z below #[Value.ref b] s) (F0 m 2159 ls []))) : W p l e room_1 s m #[Value.ref b] below meth c H locs 142 12631 (lw_Z below #[Value.ref b] s) (F0 m 735 ls []) := by
  obtain ⟨hx, hb, hr, hml, hown, hts, hX, hbl, hlocks, hgv⟩ := id C0
  have hbA : ¬ (fun q : Nat => s.heap.size ≤ q) b := Nat.not_le.mpr hbl
  have E : Ev p s m #[Value.ref b] c cL_law "EbbWreckLaw" g := ⟨hx, hb, hown, fun w h => hts w (List.mem_filter.mp h).1, hK⟩
  refine lv_aload_n hx hb dL_law_735 rfl (lv_at hl 1 rfl) ?_
  refine lv_aload_n hx hb dL_law_736 rfl (lv_at hl 0 rfl) ?_
  refine lv_iload_n hx hb dL_law_737 rfl (lv_at hl 3 rfl) ?_
  refine lv_iconst (v := 1) hx hb dL_law_738 (by decide) ?_
  refine lv_iadd hx hb dL_law_739 ?_
  refine sb_at (P := fun z => W _ _ _ _ _ _ _ _ _ _ _ _ _ _ _ (F0 _ _ _ (.int z :: _))) (nI_add i 1) ?_
  refine va_sld hx hb hX hbl hbA hS (vp_in_nI (show i + 1 < L by omega) (by omega)) dL_law_740 ?_
  refine sb_at (P := fun z => W _ _ _ _ _ _ _ _ _ _ _ _ _ _ _ (F0 _ _ _ (.int z :: _))) (show xs (nI (i + 1)).toNatClampNeg = xs (i + 1) by rw [nI_clamp (by omega)]) ?_
  obtain ⟨hI1, r2, r39, r57, r75, ar2, ar39, ar57, ar75⟩ := id hG1
  obtain ⟨_, _, _, cc1, _⟩ := invX_0 hI1
  refine xcVi E ⟨hD1, hA1⟩ (⟨hP1, hS⟩ : Hp g ad1 122 S1 (fun q : Nat => s.heap.size ≤ q) s.heap H locs) hml hl.1 0 (gX11_has_0 l g ad1 hD1 S1 hI1 (xs (i + 1)) (by omega) (by omega) (by omega)) mX11_has q959 (by decide) cc1 rfl rfl ⟨(Nat.le_of_ble_eq_true rfl), (Nat.le_of_ble_eq_true rfl)⟩ ⟨(Nat.le_of_ble_eq_true rfl), (Nat.le_of_ble_eq_true rfl)⟩ (Nat.le_of_ble_eq_true rfl) rfl dL_law_741 (fun r1 S3 H locs hp1 hQ1 hk1 => ?_)
  subst hp1
  have hG3 := hG1
  have hP3 : PW g ad1 122 S1 H := hQ1.1
  have hS := hQ1.2
  have hP2 : PW g ad2 20 S2 H := pw_kept hP2 hk1 hne
  refine lv_pop hx hb dL_law_744 rfl ?_
  refine lv_aload_n hx hb dL_law_745 rfl (lv_at hl 2 rfl) ?_
  refine lv_aload_n hx hb dL_law_746 rfl (lv_at hl 0 rfl) ?_
  refine lv_iload_n hx hb dL_law_747 rfl (lv_at hl 3 rfl) ?_
  refine lv_iconst (v := 1) hx hb dL_law_748 (by decide) ?_
  refine lv_iadd hx hb dL_law_749 ?_
  refine sb_at (P := fun z => W _ _ _ _ _ _ _ _ _ _ _ _ _ _ _ (F0 _ _ _ (.int z :: _))) (nI_add i 1) ?_
  refine va_sld hx hb hX hbl hbA hS (vp_in_nI (show i + 1 < L by omega) (by omega)) dL_law_750 ?_
  refine sb_at (P := fun z => W _ _ _ _ _ _ _ _ _ _ _ _ _ _ _ (F0 _ _ _ (.int z :: _))) (show xs (nI (i + 1)).toNatClampNeg = xs (i + 1) by rw [nI_clamp (by omega)]) ?_
  obtain ⟨hI2, t0, t1, t2, t3, at0, at1, at2, at3, ht0, ht1, ht2, ht3⟩ := id hG2
  obtain ⟨_, _, _, _, _, _, _, _, _, _, _, _, _, _, _, _, _, _, _, cc2, _, _, _, _, _, _, _, _, _⟩ := invM_0 hI2
  refine xcVi E ⟨hD2, hA2⟩ (⟨hP2, hS⟩ : Hp g ad2 20 S2 (fun q : Nat => s.heap.size ≤ q) s.heap H locs) hml hl.1 0 (gX12_has_0 l g ad2 hD2 S2 hI2 (xs (i + 1)) (by omega) (by omega) (by omega) (by omega) (by omega) at0) mX12_has q1870 (by decide) cc2 rfl rfl ⟨(Nat.le_of_ble_eq_true rfl), (Nat.le_of_ble_eq_true rfl)⟩ ⟨(Nat.le_of_ble_eq_true rfl), (Nat.le_of_ble_eq_true rfl)⟩ (Nat.le_of_ble_eq_true rfl) rfl dL_law_751 (fun r2 S4 H locs hp2 hQ2 hk2 => ?_)
  obtain ⟨hI4, o2⟩ := hp2
  have hG4 : GM g ad2 S4 := ⟨hI4, (by rw [o2 6 (by decide), o2 7 (by decide)]; exact t0), (by rw [o2 6 (by decide), o2 7 (by decide)]; exact t1), (by rw [o2 6 (by decide), o2 7 (by decide)]; exact t2), (by rw [o2 6 (by decide), o2 7 (by decide)]; exact t3), (at_tr at0 (o2 7 (by decide)) (o2 12 (by decide))), (at_tr at1 (o2 7 (by decide)) (o2 12 (by decide))), (at_tr at2 (o2 7 (by decide)) (o2 12 (by decide))), (at_tr at3 (o2 7 (by decide)) (o2 12 (by decide))), (ht_tr ht0 (o2 7 (by decide)) (o2 9 (by decide))), (ht_tr ht1 (o2 7 (by decide)) (o2 9 (by decide))), (ht_tr ht2 (o2 7 (by decide)) (o2 9 (by decide))), (ht_tr ht3 (o2 7 (by decide)) (o2 9 (by decide)))⟩
  have hS := hQ2.2
  have hP4 : PW g ad2 20 S4 H := hQ2.1
  have hP3 : PW g ad1 122 S1 H := pw_kept hP3 hk2 (fun i j hi hj e => hne j i hj hi e.symm)
  have hR4 : RR S1 S4 := rr_eq hR rfl rfl rfl (o2 13 (by decide)) (o2 1 (by decide)) (o2 2 (by decide))
  refine lv_pop hx hb dL_law_754 rfl ?_
  refine lv_goto (tgt := 2159) hx hb dL_law_755 (by decide) ?_
  exact K S1 S4 H locs ls hG3 hG4 hR4 hP3 hP4 hS hl
set_option maxHeartbeats 4000000 in
set_option maxRecDepth 100000 in
theorem law_case_16 {p : Program} {l : Launch} {e : Env} {s : State} {m : MethodId} {below : List Frame} {meth : Method} {c : Code} {b L : Nat} {xs : Nat → Int32} (C0 : lw_At p s m meth c b L xs) {g : GG} {tt : TT} {ad1 ad2 : Nat → Nat} (hK : KK g s) (hT : TW tt (fun q : Nat => s.heap.size ≤ q) s s.heap) (hD1 : Dj ad1 122) (hD2 : Dj ad2 20) (hA1 : ∀ i, i < 122 → (fun q : Nat => s.heap.size ≤ q) (ad1 i)) (hA2 : ∀ i, i < 20 → (fun q : Nat => s.heap.size ≤ q) (ad2 i)) (hne : ∀ i j, i < 122 → j < 20 → ad1 i ≠ ad2 j) {i : Nat} (hi : i + 6 ≤ L) (hL : L ≤ 3072) {S1 S2 : SS} (hG1 : GX g ad1 S1) (hG2 : GM g ad2 S2) (hR : RR S1 S2) {H : Heap} {locs : List Loc} (hP1 : PW g ad1 122 S1 H) (hP2 : PW g ad2 20 S2 H) (hS : va_S (fun q : Nat => s.heap.size ≤ q) s.heap H locs) {ls : Array Slot} (hl : lv_has ls 4 [(0, .ref b), (1, .ref (ad1 0)), (2, .ref (ad2 0)), (3, .int (nI i))]) (K : (∀ (S1 S2 : SS) (H : Heap) (locs : List Loc) (ls : Array Slot), GX g ad1 S1 → GM g ad2 S2 → RR S1 S2 → PW g ad1 122 S1 H → PW g ad2 20 S2 H → va_S (fun q : Nat => s.heap.size ≤ q) s.heap H locs → lv_has ls 4 [(0, .ref b), (1, .ref (ad1 0)), (2, .ref (ad2 0)), (3, .int (nI i))] → W p l e room_1 s m #[Value.ref b] below meth c H locs 142 12631 (lw_Z below #[Value.ref b] s) (F0 m 2159 ls []))) : W p l e room_1 s m #[Value.ref b] below meth c H locs 142 12631 (lw_Z below #[Value.ref b] s) (F0 m 758 ls []) := by
  obtain ⟨hx, hb, hr, hml, hown, hts, hX, hbl, hlocks, hgv⟩ := id C0
  have hbA : ¬ (fun q : Nat => s.heap.size ≤ q) b := Nat.not_le.mpr hbl
  have E : Ev p s m #[Value.ref b] c cL_law "EbbWreckLaw" g := ⟨hx, hb, hown, fun w h => hts w (List.mem_filter.mp h).1, hK⟩
  refine lv_aload_n hx hb dL_law_758 rfl (lv_at hl 1 rfl) ?_
  refine lv_aload_n hx hb dL_law_759 rfl (lv_at hl 0 rfl) ?_
  refine lv_iload_n hx hb dL_law_760 rfl (lv_at hl 3 rfl) ?_
  refine lv_iconst (v := 1) hx hb dL_law_761 (by decide) ?_
  refine lv_iadd hx hb dL_law_762 ?_
  refine sb_at (P := fun z => W _ _ _ _ _ _ _ _ _ _ _ _ _ _ _ (F0 _ _ _ (.int z :: _))) (nI_add i 1) ?_
  refine va_sld hx hb hX hbl hbA hS (vp_in_nI (show i + 1 < L by omega) (by omega)) dL_law_763 ?_
  refine sb_at (P := fun z => W _ _ _ _ _ _ _ _ _ _ _ _ _ _ _ (F0 _ _ _ (.int z :: _))) (show xs (nI (i + 1)).toNatClampNeg = xs (i + 1) by rw [nI_clamp (by omega)]) ?_
  obtain ⟨hI1, r2, r39, r57, r75, ar2, ar39, ar57, ar75⟩ := id hG1
  obtain ⟨_, _, _, cc1, _⟩ := invX_0 hI1
  refine xcVi E ⟨hD1, hA1⟩ (⟨hP1, hS⟩ : Hp g ad1 122 S1 (fun q : Nat => s.heap.size ≤ q) s.heap H locs) hml hl.1 0 (gX11_line_0 l g ad1 hD1 S1 hI1 (xs (i + 1)) (by omega) (by omega) (by omega)) mX11_line q972 (by decide) cc1 rfl rfl ⟨(Nat.le_of_ble_eq_true rfl), (Nat.le_of_ble_eq_true rfl)⟩ ⟨(Nat.le_of_ble_eq_true rfl), (Nat.le_of_ble_eq_true rfl)⟩ (Nat.le_of_ble_eq_true rfl) rfl dL_law_764 (fun r1 S3 H locs hp1 hQ1 hk1 => ?_)
  subst hp1
  have hG3 := hG1
  have hP3 : PW g ad1 122 S1 H := hQ1.1
  have hS := hQ1.2
  have hP2 : PW g ad2 20 S2 H := pw_kept hP2 hk1 hne
  refine lv_pop hx hb dL_law_767 rfl ?_
  refine lv_aload_n hx hb dL_law_768 rfl (lv_at hl 2 rfl) ?_
  refine lv_aload_n hx hb dL_law_769 rfl (lv_at hl 0 rfl) ?_
  refine lv_iload_n hx hb dL_law_770 rfl (lv_at hl 3 rfl) ?_
  refine lv_iconst (v := 1) hx hb dL_law_771 (by decide) ?_
  refine lv_iadd hx hb dL_law_772 ?_
  refine sb_at (P := fun z => W _ _ _ _ _ _ _ _ _ _ _ _ _ _ _ (F0 _ _ _ (.int z :: _))) (nI_add i 1) ?_
  refine va_sld hx hb hX hbl hbA hS (vp_in_nI (show i + 1 < L by omega) (by omega)) dL_law_773 ?_
  refine sb_at (P := fun z => W _ _ _ _ _ _ _ _ _ _ _ _ _ _ _ (F0 _ _ _ (.int z :: _))) (show xs (nI (i + 1)).toNatClampNeg = xs (i + 1) by rw [nI_clamp (by omega)]) ?_
  obtain ⟨hI2, t0, t1, t2, t3, at0, at1, at2, at3, ht0, ht1, ht2, ht3⟩ := id hG2
  obtain ⟨_, _, _, _, _, _, _, _, _, _, _, _, _, _, _, _, _, _, _, cc2, _, _, _, _, _, _, _, _, _⟩ := invM_0 hI2
  refine xcVi E ⟨hD2, hA2⟩ (⟨hP2, hS⟩ : Hp g ad2 20 S2 (fun q : Nat => s.heap.size ≤ q) s.heap H locs) hml hl.1 0 (gX12_line__0 l g ad2 hD2 S2 hI2 (xs (i + 1)) (by omega) (by omega) (by omega) (by omega) (by omega) at0) mX12_line_ q1887 (by decide) cc2 rfl rfl ⟨(Nat.le_of_ble_eq_true rfl), (Nat.le_of_ble_eq_true rfl)⟩ ⟨(Nat.le_of_ble_eq_true rfl), (Nat.le_of_ble_eq_true rfl)⟩ (Nat.le_of_ble_eq_true rfl) rfl dL_law_774 (fun r2 S4 H locs hp2 hQ2 hk2 => ?_)
  obtain ⟨hI4, o2⟩ := hp2
  have hG4 : GM g ad2 S4 := ⟨hI4, (by rw [o2 6 (by decide), o2 7 (by decide)]; exact t0), (by rw [o2 6 (by decide), o2 7 (by decide)]; exact t1), (by rw [o2 6 (by decide), o2 7 (by decide)]; exact t2), (by rw [o2 6 (by decide), o2 7 (by decide)]; exact t3), (at_tr at0 (o2 7 (by decide)) (o2 12 (by decide))), (at_tr at1 (o2 7 (by decide)) (o2 12 (by decide))), (at_tr at2 (o2 7 (by decide)) (o2 12 (by decide))), (at_tr at3 (o2 7 (by decide)) (o2 12 (by decide))), (ht_tr ht0 (o2 7 (by decide)) (o2 9 (by decide))), (ht_tr ht1 (o2 7 (by decide)) (o2 9 (by decide))), (ht_tr ht2 (o2 7 (by decide)) (o2 9 (by decide))), (ht_tr ht3 (o2 7 (by decide)) (o2 9 (by decide)))⟩
  have hS := hQ2.2
  have hP4 : PW g ad2 20 S4 H := hQ2.1
  have hP3 : PW g ad1 122 S1 H := pw_kept hP3 hk2 (fun i j hi hj e => hne j i hj hi e.symm)
  have hR4 : RR S1 S4 := rr_eq hR rfl rfl rfl (o2 13 (by decide)) (o2 1 (by decide)) (o2 2 (by decide))
  refine lv_pop hx hb dL_law_777 rfl ?_
  refine lv_goto (tgt := 2159) hx hb dL_law_778 (by decide) ?_
  exact K S1 S4 H locs ls hG3 hG4 hR4 hP3 hP4 hS hl
set_option maxHeartbeats 4000000 in
set_option maxRecDepth 100000 in
theorem law_case_17 {p : Program} {l : Launch} {e : Env} {s : State} {m : MethodId} {below : List Frame} {meth : Method} {c : Code} {b L : Nat} {xs : Nat → Int32} (C0 : lw_At p s m meth c b L xs) {g : GG} {tt : TT} {ad1 ad2 : Nat → Nat} (hK : KK g s) (hT : TW tt (fun q : Nat => s.heap.size ≤ q) s s.heap) (hD1 : Dj ad1 122) (hD2 : Dj ad2 20) (hA1 : ∀ i, i < 122 → (fun q : Nat => s.heap.size ≤ q) (ad1 i)) (hA2 : ∀ i, i < 20 → (fun q : Nat => s.heap.size ≤ q) (ad2 i)) (hne : ∀ i j, i < 122 → j < 20 → ad1 i ≠ ad2 j) {i : Nat} (hi : i + 6 ≤ L) (hL : L ≤ 3072) {S1 S2 : SS} (hG1 : GX g ad1 S1) (hG2 : GM g ad2 S2) (hR : RR S1 S2) {H : Heap} {locs : List Loc} (hP1 : PW g ad1 122 S1 H) (hP2 : PW g ad2 20 S2 H) (hS : va_S (fun q : Nat => s.heap.size ≤ q) s.heap H locs) {ls : Array Slot} (hl : lv_has ls 4 [(0, .ref b), (1, .ref (ad1 0)), (2, .ref (ad2 0)), (3, .int (nI i))]) (K : (∀ (S1 S2 : SS) (H : Heap) (locs : List Loc) (ls : Array Slot), GX g ad1 S1 → GM g ad2 S2 → RR S1 S2 → PW g ad1 122 S1 H → PW g ad2 20 S2 H → va_S (fun q : Nat => s.heap.size ≤ q) s.heap H locs → lv_has ls 4 [(0, .ref b), (1, .ref (ad1 0)), (2, .ref (ad2 0)), (3, .int (nI i))] → W p l e room_1 s m #[Value.ref b] below meth c H locs 142 12631 (lw_Z below #[Value.ref b] s) (F0 m 2159 ls []))) : W p l e room_1 s m #[Value.ref b] below meth c H locs 142 12631 (lw_Z below #[Value.ref b] s) (F0 m 781 ls []) := by
  obtain ⟨hx, hb, hr, hml, hown, hts, hX, hbl, hlocks, hgv⟩ := id C0
  have hbA : ¬ (fun q : Nat => s.heap.size ≤ q) b := Nat.not_le.mpr hbl
  have E : Ev p s m #[Value.ref b] c cL_law "EbbWreckLaw" g := ⟨hx, hb, hown, fun w h => hts w (List.mem_filter.mp h).1, hK⟩
  refine lv_aload_n hx hb dL_law_781 rfl (lv_at hl 1 rfl) ?_
  obtain ⟨hI1, r2, r39, r57, r75, ar2, ar39, ar57, ar75⟩ := id hG1
  obtain ⟨_, _, _, cc1, _⟩ := invX_0 hI1
  refine xcVi E ⟨hD1, hA1⟩ (⟨hP1, hS⟩ : Hp g ad1 122 S1 (fun q : Nat => s.heap.size ≤ q) s.heap H locs) hml hl.1 0 (gX11_argued_0 l g ad1 hD1 S1 hI1 (by omega) (by omega) (by omega)) mX11_argued q997 (by decide) cc1 rfl rfl ⟨(Nat.le_of_ble_eq_true rfl), (Nat.le_of_ble_eq_true rfl)⟩ ⟨(Nat.le_of_ble_eq_true rfl), (Nat.le_of_ble_eq_true rfl)⟩ (Nat.le_of_ble_eq_true rfl) rfl dL_law_782 (fun r1 S3 H locs hp1 hQ1 hk1 => ?_)
  subst hp1
  have hG3 := hG1
  have hP3 : PW g ad1 122 S1 H := hQ1.1
  have hS := hQ1.2
  have hP2 : PW g ad2 20 S2 H := pw_kept hP2 hk1 hne
  refine lv_pop hx hb dL_law_785 rfl ?_
  refine lv_aload_n hx hb dL_law_786 rfl (lv_at hl 2 rfl) ?_
  obtain ⟨hI2, t0, t1, t2, t3, at0, at1, at2, at3, ht0, ht1, ht2, ht3⟩ := id hG2
  obtain ⟨_, _, _, _, _, _, _, _, _, _, _, _, _, _, _, _, _, _, _, cc2, _, _, _, _, _, _, _, _, _⟩ := invM_0 hI2
  refine xcVi E ⟨hD2, hA2⟩ (⟨hP2, hS⟩ : Hp g ad2 20 S2 (fun q : Nat => s.heap.size ≤ q) s.heap H locs) hml hl.1 0 (gX12_argued_0 l g ad2 hD2 S2 hI2 (by omega) (by omega) (by omega) (by omega) (by omega) at0) mX12_argued q1891 (by decide) cc2 rfl rfl ⟨(Nat.le_of_ble_eq_true rfl), (Nat.le_of_ble_eq_true rfl)⟩ ⟨(Nat.le_of_ble_eq_true rfl), (Nat.le_of_ble_eq_true rfl)⟩ (Nat.le_of_ble_eq_true rfl) rfl dL_law_787 (fun r2 S4 H locs hp2 hQ2 hk2 => ?_)
  obtain ⟨hI4, o2⟩ := hp2
  have hG4 : GM g ad2 S4 := ⟨hI4, (by rw [o2 6 (by decide), o2 7 (by decide)]; exact t0), (by rw [o2 6 (by decide), o2 7 (by decide)]; exact t1), (by rw [o2 6 (by decide), o2 7 (by decide)]; exact t2), (by rw [o2 6 (by decide), o2 7 (by decide)]; exact t3), (at_tr at0 (o2 7 (by decide)) (o2 12 (by decide))), (at_tr at1 (o2 7 (by decide)) (o2 12 (by decide))), (at_tr at2 (o2 7 (by decide)) (o2 12 (by decide))), (at_tr at3 (o2 7 (by decide)) (o2 12 (by decide))), (ht_tr ht0 (o2 7 (by decide)) (o2 9 (by decide))), (ht_tr ht1 (o2 7 (by decide)) (o2 9 (by decide))), (ht_tr ht2 (o2 7 (by decide)) (o2 9 (by decide))), (ht_tr ht3 (o2 7 (by decide)) (o2 9 (by decide)))⟩
  have hS := hQ2.2
  have hP4 : PW g ad2 20 S4 H := hQ2.1
  have hP3 : PW g ad1 122 S1 H := pw_kept hP3 hk2 (fun i j hi hj e => hne j i hj hi e.symm)
  have hR4 : RR S1 S4 := rr_eq hR rfl rfl rfl (o2 13 (by decide)) (o2 1 (by decide)) (o2 2 (by decide))
  refine lv_pop hx hb dL_law_790 rfl ?_
  refine lv_goto (tgt := 2159) hx hb dL_law_791 (by decide) ?_
  exact K S1 S4 H locs ls hG3 hG4 hR4 hP3 hP4 hS hl
set_option maxHeartbeats 4000000 in
set_option maxRecDepth 100000 in
theorem law_case_18 {p : Program} {l : Launch} {e : Env} {s : State} {m : MethodId} {below : List Frame} {meth : Method} {c : Code} {b L : Nat} {xs : Nat → Int32} (C0 : lw_At p s m meth c b L xs) {g : GG} {tt : TT} {ad1 ad2 : Nat → Nat} (hK : KK g s) (hT : TW tt (fun q : Nat => s.heap.size ≤ q) s s.heap) (hD1 : Dj ad1 122) (hD2 : Dj ad2 20) (hA1 : ∀ i, i < 122 → (fun q : Nat => s.heap.size ≤ q) (ad1 i)) (hA2 : ∀ i, i < 20 → (fun q : Nat => s.heap.size ≤ q) (ad2 i)) (hne : ∀ i j, i < 122 → j < 20 → ad1 i ≠ ad2 j) {i : Nat} (hi : i + 6 ≤ L) (hL : L ≤ 3072) {S1 S2 : SS} (hG1 : GX g ad1 S1) (hG2 : GM g ad2 S2) (hR : RR S1 S2) {H : Heap} {locs : List Loc} (hP1 : PW g ad1 122 S1 H) (hP2 : PW g ad2 20 S2 H) (hS : va_S (fun q : Nat => s.heap.size ≤ q) s.heap H locs) {ls : Array Slot} (hl : lv_has ls 4 [(0, .ref b), (1, .ref (ad1 0)), (2, .ref (ad2 0)), (3, .int (nI i))]) (K : (∀ (S1 S2 : SS) (H : Heap) (locs : List Loc) (ls : Array Slot), GX g ad1 S1 → GM g ad2 S2 → RR S1 S2 → PW g ad1 122 S1 H → PW g ad2 20 S2 H → va_S (fun q : Nat => s.heap.size ≤ q) s.heap H locs → lv_has ls 4 [(0, .ref b), (1, .ref (ad1 0)), (2, .ref (ad2 0)), (3, .int (nI i))] → W p l e room_1 s m #[Value.ref b] below meth c H locs 142 12631 (lw_Z below #[Value.ref b] s) (F0 m 2159 ls []))) : W p l e room_1 s m #[Value.ref b] below meth c H locs 142 12631 (lw_Z below #[Value.ref b] s) (F0 m 794 ls []) := by
  obtain ⟨hx, hb, hr, hml, hown, hts, hX, hbl, hlocks, hgv⟩ := id C0
  have hbA : ¬ (fun q : Nat => s.heap.size ≤ q) b := Nat.not_le.mpr hbl
  have E : Ev p s m #[Value.ref b] c cL_law "EbbWreckLaw" g := ⟨hx, hb, hown, fun w h => hts w (List.mem_filter.mp h).1, hK⟩
  refine lv_aload_n hx hb dL_law_794 rfl (lv_at hl 1 rfl) ?_
  refine lv_aload_n hx hb dL_law_795 rfl (lv_at hl 0 rfl) ?_
  refine lv_iload_n hx hb dL_law_796 rfl (lv_at hl 3 rfl) ?_
  refine lv_iconst (v := 1) hx hb dL_law_797 (by decide) ?_
  refine lv_iadd hx hb dL_law_798 ?_
  refine sb_at (P := fun z => W _ _ _ _ _ _ _ _ _ _ _ _ _ _ _ (F0 _ _ _ (.int z :: _))) (nI_add i 1) ?_
  refine va_sld hx hb hX hbl hbA hS (vp_in_nI (show i + 1 < L by omega) (by omega)) dL_law_799 ?_
  refine sb_at (P := fun z => W _ _ _ _ _ _ _ _ _ _ _ _ _ _ _ (F0 _ _ _ (.int z :: _))) (show xs (nI (i + 1)).toNatClampNeg = xs (i + 1) by rw [nI_clamp (by omega)]) ?_
  obtain ⟨hI1, r2, r39, r57, r75, ar2, ar39, ar57, ar75⟩ := id hG1
  obtain ⟨_, _, _, cc1, _⟩ := invX_0 hI1
  refine xcVi E ⟨hD1, hA1⟩ (⟨hP1, hS⟩ : Hp g ad1 122 S1 (fun q : Nat => s.heap.size ≤ q) s.heap H locs) hml hl.1 0 (gX11_gaps_0 l g ad1 hD1 S1 hI1 (xs (i + 1)) (by omega) (by omega) (by omega)) mX11_gaps q1015 (by decide) cc1 rfl rfl ⟨(Nat.le_of_ble_eq_true rfl), (Nat.le_of_ble_eq_true rfl)⟩ ⟨(Nat.le_of_ble_eq_true rfl), (Nat.le_of_ble_eq_true rfl)⟩ (Nat.le_of_ble_eq_true rfl) rfl dL_law_800 (fun r1 S3 H locs hp1 hQ1 hk1 => ?_)
  subst hp1
  have hG3 := hG1
  have hP3 : PW g ad1 122 S1 H := hQ1.1
  have hS := hQ1.2
  have hP2 : PW g ad2 20 S2 H := pw_kept hP2 hk1 hne
  refine lv_pop hx hb dL_law_803 rfl ?_
  refine lv_aload_n hx hb dL_law_804 rfl (lv_at hl 2 rfl) ?_
  refine lv_aload_n hx hb dL_law_805 rfl (lv_at hl 0 rfl) ?_
  refine lv_iload_n hx hb dL_law_806 rfl (lv_at hl 3 rfl) ?_
  refine lv_iconst (v := 1) hx hb dL_law_807 (by decide) ?_
  refine lv_iadd hx hb dL_law_808 ?_
  refine sb_at (P := fun z => W _ _ _ _ _ _ _ _ _ _ _ _ _ _ _ (F0 _ _ _ (.int z :: _))) (nI_add i 1) ?_
  refine va_sld hx hb hX hbl hbA hS (vp_in_nI (show i + 1 < L by omega) (by omega)) dL_law_809 ?_
  refine sb_at (P := fun z => W _ _ _ _ _ _ _ _ _ _ _ _ _ _ _ (F0 _ _ _ (.int z :: _))) (show xs (nI (i + 1)).toNatClampNeg = xs (i + 1) by rw [nI_clamp (by omega)]) ?_
  obtain ⟨hI2, t0, t1, t2, t3, at0, at1, at2, at3, ht0, ht1, ht2, ht3⟩ := id hG2
  obtain ⟨_, _, _, _, _, _, _, _, _, _, _, _, _, _, _, _, _, _, _, cc2, _, _, _, _, _, _, _, _, _⟩ := invM_0 hI2
  refine xcVi E ⟨hD2, hA2⟩ (⟨hP2, hS⟩ : Hp g ad2 20 S2 (fun q : Nat => s.heap.size ≤ q) s.heap H locs) hml hl.1 0 (gX12_gaps_0 l g ad2 hD2 S2 hI2 (xs (i + 1)) (by omega) (by omega) (by omega) (by omega) (by omega)) mX12_gaps q1898 (by decide) cc2 rfl rfl ⟨(Nat.le_of_ble_eq_true rfl), (Nat.le_of_ble_eq_true rfl)⟩ ⟨(Nat.le_of_ble_eq_true rfl), (Nat.le_of_ble_eq_true rfl)⟩ (Nat.le_of_ble_eq_true rfl) rfl dL_law_810 (fun r2 S4 H locs hp2 hQ2 hk2 => ?_)
  obtain ⟨hI4, o2⟩ := hp2
  have hG4 : GM g ad2 S4 := ⟨hI4, (by rw [o2 6 (by decide), o2 7 (by decide)]; exact t0), (by rw [o2 6 (by decide), o2 7 (by decide)]; exact t1), (by rw [o2 6 (by decide), o2 7 (by decide)]; exact t2), (by rw [o2 6 (by decide), o2 7 (by decide)]; exact t3), (at_tr at0 (o2 7 (by decide)) (o2 12 (by decide))), (at_tr at1 (o2 7 (by decide)) (o2 12 (by decide))), (at_tr at2 (o2 7 (by decide)) (o2 12 (by decide))), (at_tr at3 (o2 7 (by decide)) (o2 12 (by decide))), (ht_tr ht0 (o2 7 (by decide)) (o2 9 (by decide))), (ht_tr ht1 (o2 7 (by decide)) (o2 9 (by decide))), (ht_tr ht2 (o2 7 (by decide)) (o2 9 (by decide))), (ht_tr ht3 (o2 7 (by decide)) (o2 9 (by decide)))⟩
  have hS := hQ2.2
  have hP4 : PW g ad2 20 S4 H := hQ2.1
  have hP3 : PW g ad1 122 S1 H := pw_kept hP3 hk2 (fun i j hi hj e => hne j i hj hi e.symm)
  have hR4 : RR S1 S4 := rr_eq hR rfl rfl rfl (o2 13 (by decide)) (o2 1 (by decide)) (o2 2 (by decide))
  refine lv_pop hx hb dL_law_813 rfl ?_
  refine lv_goto (tgt := 2159) hx hb dL_law_814 (by decide) ?_
  exact K S1 S4 H locs ls hG3 hG4 hR4 hP3 hP4 hS hl
set_option maxHeartbeats 4000000 in
set_option maxRecDepth 100000 in
theorem law_case_19 {p : Program} {l : Launch} {e : Env} {s : State} {m : MethodId} {below : List Frame} {meth : Method} {c : Code} {b L : Nat} {xs : Nat → Int32} (C0 : lw_At p s m meth c b L xs) {g : GG} {tt : TT} {ad1 ad2 : Nat → Nat} (hK : KK g s) (hT : TW tt (fun q : Nat => s.heap.size ≤ q) s s.heap) (hD1 : Dj ad1 122) (hD2 : Dj ad2 20) (hA1 : ∀ i, i < 122 → (fun q : Nat => s.heap.size ≤ q) (ad1 i)) (hA2 : ∀ i, i < 20 → (fun q : Nat => s.heap.size ≤ q) (ad2 i)) (hne : ∀ i j, i < 122 → j < 20 → ad1 i ≠ ad2 j) {i : Nat} (hi : i + 6 ≤ L) (hL : L ≤ 3072) {S1 S2 : SS} (hG1 : GX g ad1 S1) (hG2 : GM g ad2 S2) (hR : RR S1 S2) {H : Heap} {locs : List Loc} (hP1 : PW g ad1 122 S1 H) (hP2 : PW g ad2 20 S2 H) (hS : va_S (fun q : Nat => s.heap.size ≤ q) s.heap H locs) {ls : Array Slot} (hl : lv_has ls 4 [(0, .ref b), (1, .ref (ad1 0)), (2, .ref (ad2 0)), (3, .int (nI i))]) (K : (∀ (S1 S2 : SS) (H : Heap) (locs : List Loc) (ls : Array Slot), GX g ad1 S1 → GM g ad2 S2 → RR S1 S2 → PW g ad1 122 S1 H → PW g ad2 20 S2 H → va_S (fun q : Nat => s.heap.size ≤ q) s.heap H locs → lv_has ls 4 [(0, .ref b), (1, .ref (ad1 0)), (2, .ref (ad2 0)), (3, .int (nI i))] → W p l e room_1 s m #[Value.ref b] below meth c H locs 142 12631 (lw_Z below #[Value.ref b] s) (F0 m 2159 ls []))) : W p l e room_1 s m #[Value.ref b] below meth c H locs 142 12631 (lw_Z below #[Value.ref b] s) (F0 m 817 ls []) := by
  obtain ⟨hx, hb, hr, hml, hown, hts, hX, hbl, hlocks, hgv⟩ := id C0
  have hbA : ¬ (fun q : Nat => s.heap.size ≤ q) b := Nat.not_le.mpr hbl
  have E : Ev p s m #[Value.ref b] c cL_law "EbbWreckLaw" g := ⟨hx, hb, hown, fun w h => hts w (List.mem_filter.mp h).1, hK⟩
  refine lv_aload_n hx hb dL_law_817 rfl (lv_at hl 1 rfl) ?_
  obtain ⟨hI1, r2, r39, r57, r75, ar2, ar39, ar57, ar75⟩ := id hG1
  obtain ⟨_, _, _, cc1, _⟩ := invX_0 hI1
  refine xcVi E ⟨hD1, hA1⟩ (⟨hP1, hS⟩ : Hp g ad1 122 S1 (fun q : Nat => s.heap.size ≤ q) s.heap H locs) hml hl.1 0 (gX11_idle_0 l g ad1 hD1 S1 hI1 (by omega) (by omega) (by omega)) mX11_idle q1020 (by decide) cc1 rfl rfl ⟨(Nat.le_of_ble_eq_true rfl), (Nat.le_of_ble_eq_true rfl)⟩ ⟨(Nat.le_of_ble_eq_true rfl), (Nat.le_of_ble_eq_true rfl)⟩ (Nat.le_of_ble_eq_true rfl) rfl dL_law_818 (fun r1 S3 H locs hp1 hQ1 hk1 => ?_)
  subst hp1
  have hG3 := hG1
  have hP3 : PW g ad1 122 S1 H := hQ1.1
  have hS := hQ1.2
  have hP2 : PW g ad2 20 S2 H := pw_kept hP2 hk1 hne
  refine lv_pop hx hb dL_law_821 rfl ?_
  refine lv_aload_n hx hb dL_law_822 rfl (lv_at hl 2 rfl) ?_
  obtain ⟨hI2, t0, t1, t2, t3, at0, at1, at2, at3, ht0, ht1, ht2, ht3⟩ := id hG2
  obtain ⟨_, _, _, _, _, _, _, _, _, _, _, _, _, _, _, _, _, _, _, cc2, _, _, _, _, _, _, _, _, _⟩ := invM_0 hI2
  refine xcVi E ⟨hD2, hA2⟩ (⟨hP2, hS⟩ : Hp g ad2 20 S2 (fun q : Nat => s.heap.size ≤ q) s.heap H locs) hml hl.1 0 (gX12_idle_0 l g ad2 hD2 S2 hI2 (by omega) (by omega) (by omega) (by omega) (by omega)) mX12_idle q1902 (by decide) cc2 rfl rfl ⟨(Nat.le_of_ble_eq_true rfl), (Nat.le_of_ble_eq_true rfl)⟩ ⟨(Nat.le_of_ble_eq_true rfl), (Nat.le_of_ble_eq_true rfl)⟩ (Nat.le_of_ble_eq_true rfl) rfl dL_law_823 (fun r2 S4 H locs hp2 hQ2 hk2 => ?_)
  obtain ⟨hI4, o2⟩ := hp2
  have hG4 : GM g ad2 S4 := ⟨hI4, (by rw [o2 6 (by decide), o2 7 (by decide)]; exact t0), (by rw [o2 6 (by decide), o2 7 (by decide)]; exact t1), (by rw [o2 6 (by decide), o2 7 (by decide)]; exact t2), (by rw [o2 6 (by decide), o2 7 (by decide)]; exact t3), (at_tr at0 (o2 7 (by decide)) (o2 12 (by decide))), (at_tr at1 (o2 7 (by decide)) (o2 12 (by decide))), (at_tr at2 (o2 7 (by decide)) (o2 12 (by decide))), (at_tr at3 (o2 7 (by decide)) (o2 12 (by decide))), (ht_tr ht0 (o2 7 (by decide)) (o2 9 (by decide))), (ht_tr ht1 (o2 7 (by decide)) (o2 9 (by decide))), (ht_tr ht2 (o2 7 (by decide)) (o2 9 (by decide))), (ht_tr ht3 (o2 7 (by decide)) (o2 9 (by decide)))⟩
  have hS := hQ2.2
  have hP4 : PW g ad2 20 S4 H := hQ2.1
  have hP3 : PW g ad1 122 S1 H := pw_kept hP3 hk2 (fun i j hi hj e => hne j i hj hi e.symm)
  have hR4 : RR S1 S4 := rr_eq hR rfl rfl rfl (o2 13 (by decide)) (o2 1 (by decide)) (o2 2 (by decide))
  refine lv_pop hx hb dL_law_826 rfl ?_
  refine lv_goto (tgt := 2159) hx hb dL_law_827 (by decide) ?_
  exact K S1 S4 H locs ls hG3 hG4 hR4 hP3 hP4 hS hl
set_option maxHeartbeats 4000000 in
set_option maxRecDepth 100000 in
theorem law_case_20 {p : Program} {l : Launch} {e : Env} {s : State} {m : MethodId} {below : List Frame} {meth : Method} {c : Code} {b L : Nat} {xs : Nat → Int32} (C0 : lw_At p s m meth c b L xs) {g : GG} {tt : TT} {ad1 ad2 : Nat → Nat} (hK : KK g s) (hT : TW tt (fun q : Nat => s.heap.size ≤ q) s s.heap) (hD1 : Dj ad1 122) (hD2 : Dj ad2 20) (hA1 : ∀ i, i < 122 → (fun q : Nat => s.heap.size ≤ q) (ad1 i)) (hA2 : ∀ i, i < 20 → (fun q : Nat => s.heap.size ≤ q) (ad2 i)) (hne : ∀ i j, i < 122 → j < 20 → ad1 i ≠ ad2 j) {i : Nat} (hi : i + 6 ≤ L) (hL : L ≤ 3072) {S1 S2 : SS} (hG1 : GX g ad1 S1) (hG2 : GM g ad2 S2) (hR : RR S1 S2) {H : Heap} {locs : List Loc} (hP1 : PW g ad1 122 S1 H) (hP2 : PW g ad2 20 S2 H) (hS : va_S (fun q : Nat => s.heap.size ≤ q) s.heap H locs) {ls : Array Slot} (hl : lv_has ls 4 [(0, .ref b), (1, .ref (ad1 0)), (2, .ref (ad2 0)), (3, .int (nI i))]) (K : (∀ (S1 S2 : SS) (H : Heap) (locs : List Loc) (ls : Array Slot), GX g ad1 S1 → GM g ad2 S2 → RR S1 S2 → PW g ad1 122 S1 H → PW g ad2 20 S2 H → va_S (fun q : Nat => s.heap.size ≤ q) s.heap H locs → lv_has ls 4 [(0, .ref b), (1, .ref (ad1 0)), (2, .ref (ad2 0)), (3, .int (nI i))] → W p l e room_1 s m #[Value.ref b] below meth c H locs 142 12631 (lw_Z below #[Value.ref b] s) (F0 m 2159 ls []))) : W p l e room_1 s m #[Value.ref b] below meth c H locs 142 12631 (lw_Z below #[Value.ref b] s) (F0 m 830 ls []) := by
  obtain ⟨hx, hb, hr, hml, hown, hts, hX, hbl, hlocks, hgv⟩ := id C0
  have hbA : ¬ (fun q : Nat => s.heap.size ≤ q) b := Nat.not_le.mpr hbl
  have E : Ev p s m #[Value.ref b] c cL_law "EbbWreckLaw" g := ⟨hx, hb, hown, fun w h => hts w (List.mem_filter.mp h).1, hK⟩
  refine lv_aload_n hx hb dL_law_830 rfl (lv_at hl 1 rfl) ?_
  refine lv_aload_n hx hb dL_law_831 rfl (lv_at hl 0 rfl) ?_
  refine lv_iload_n hx hb dL_law_832 rfl (lv_at hl 3 rfl) ?_
  refine lv_iconst (v := 1) hx hb dL_law_833 (by decide) ?_
  refine lv_iadd hx hb dL_law_834 ?_
  refine sb_at (P := fun z => W _ _ _ _ _ _ _ _ _ _ _ _ _ _ _ (F0 _ _ _ (.int z :: _))) (nI_add i 1) ?_
  refine va_sld hx hb hX hbl hbA hS (vp_in_nI (show i + 1 < L by omega) (by omega)) dL_law_835 ?_
  refine sb_at (P := fun z => W _ _ _ _ _ _ _ _ _ _ _ _ _ _ _ (F0 _ _ _ (.int z :: _))) (show xs (nI (i + 1)).toNatClampNeg = xs (i + 1) by rw [nI_clamp (by omega)]) ?_
  refine lv_aload_n hx hb dL_law_836 rfl (lv_at hl 0 rfl) ?_
  refine lv_iload_n hx hb dL_law_837 rfl (lv_at hl 3 rfl) ?_
  refine lv_iconst (v := 2) hx hb dL_law_838 (by decide) ?_
  refine lv_iadd hx hb dL_law_839 ?_
  refine sb_at (P := fun z => W _ _ _ _ _ _ _ _ _ _ _ _ _ _ _ (F0 _ _ _ (.int z :: _))) (nI_add i 2) ?_
  refine va_sld hx hb hX hbl hbA hS (vp_in_nI (show i + 2 < L by omega) (by omega)) dL_law_840 ?_
  refine sb_at (P := fun z => W _ _ _ _ _ _ _ _ _ _ _ _ _ _ _ (F0 _ _ _ (.int z :: _))) (show xs (nI (i + 2)).toNatClampNeg = xs (i + 2) by rw [nI_clamp (by omega)]) ?_
  obtain ⟨hI1, r2, r39, r57, r75, ar2, ar39, ar57, ar75⟩ := id hG1
  obtain ⟨_, _, _, cc1, _⟩ := invX_0 hI1
  refine xcVi E ⟨hD1, hA1⟩ (⟨hP1, hS⟩ : Hp g ad1 122 S1 (fun q : Nat => s.heap.size ≤ q) s.heap H locs) hml hl.1 0 (gX11_without_0 l g ad1 hD1 S1 hI1 (xs (i + 1)) (xs (i + 2)) (by omega) (by omega) (by omega)) mX11_without q1024 (by decide) cc1 rfl rfl ⟨(Nat.le_of_ble_eq_true rfl), (Nat.le_of_ble_eq_true rfl)⟩ ⟨(Nat.le_of_ble_eq_true rfl), (Nat.le_of_ble_eq_true rfl)⟩ (Nat.le_of_ble_eq_true rfl) rfl dL_law_841 (fun r1 S3 H locs hp1 hQ1 hk1 => ?_)
  subst hp1
  have hG3 := hG1
  have hP3 : PW g ad1 122 S1 H := hQ1.1
  have hS := hQ1.2
  have hP2 : PW g ad2 20 S2 H := pw_kept hP2 hk1 hne
  refine lv_pop hx hb dL_law_844 rfl ?_
  refine lv_aload_n hx hb dL_law_845 rfl (lv_at hl 2 rfl) ?_
  refine lv_aload_n hx hb dL_law_846 rfl (lv_at hl 0 rfl) ?_
  refine lv_iload_n hx hb dL_law_847 rfl (lv_at hl 3 rfl) ?_
  refine lv_iconst (v := 1) hx hb dL_law_848 (by decide) ?_
  refine lv_iadd hx hb dL_law_849 ?_
  refine sb_at (P := fun z => W _ _ _ _ _ _ _ _ _ _ _ _ _ _ _ (F0 _ _ _ (.int z :: _))) (nI_add i 1) ?_
  refine va_sld hx hb hX hbl hbA hS (vp_in_nI (show i + 1 < L by omega) (by omega)) dL_law_850 ?_
  refine sb_at (P := fun z => W _ _ _ _ _ _ _ _ _ _ _ _ _ _ _ (F0 _ _ _ (.int z :: _))) (show xs (nI (i + 1)).toNatClampNeg = xs (i + 1) by rw [nI_clamp (by omega)]) ?_
  refine lv_aload_n hx hb dL_law_851 rfl (lv_at hl 0 rfl) ?_
  refine lv_iload_n hx hb dL_law_852 rfl (lv_at hl 3 rfl) ?_
  refine lv_iconst (v := 2) hx hb dL_law_853 (by decide) ?_
  refine lv_iadd hx hb dL_law_854 ?_
  refine sb_at (P := fun z => W _ _ _ _ _ _ _ _ _ _ _ _ _ _ _ (F0 _ _ _ (.int z :: _))) (nI_add i 2) ?_
  refine va_sld hx hb hX hbl hbA hS (vp_in_nI (show i + 2 < L by omega) (by omega)) dL_law_855 ?_
  refine sb_at (P := fun z => W _ _ _ _ _ _ _ _ _ _ _ _ _ _ _ (F0 _ _ _ (.int z :: _))) (show xs (nI (i + 2)).toNatClampNeg = xs (i + 2) by rw [nI_clamp (by omega)]) ?_
  obtain ⟨hI2, t0, t1, t2, t3, at0, at1, at2, at3, ht0, ht1, ht2, ht3⟩ := id hG2
  obtain ⟨_, _, _, _, _, _, _, _, _, _, _, _, _, _, _, _, _, _, _, cc2, _, _, _, _, _, _, _, _, _⟩ := invM_0 hI2
  refine xcVi E ⟨hD2, hA2⟩ (⟨hP2, hS⟩ : Hp g ad2 20 S2 (fun q : Nat => s.heap.size ≤ q) s.heap H locs) hml hl.1 0 (gX12_without_0 l g ad2 hD2 S2 hI2 (xs (i + 1)) (xs (i + 2)) (by omega) (by omega) (by omega) (by omega) (by omega) at0) mX12_without q1910 (by decide) cc2 rfl rfl ⟨(Nat.le_of_ble_eq_true rfl), (Nat.le_of_ble_eq_true rfl)⟩ ⟨(Nat.le_of_ble_eq_true rfl), (Nat.le_of_ble_eq_true rfl)⟩ (Nat.le_of_ble_eq_true rfl) rfl dL_law_856 (fun r2 S4 H locs hp2 hQ2 hk2 => ?_)
  obtain ⟨hI4, o2⟩ := hp2
  have hG4 : GM g ad2 S4 := ⟨hI4, (by rw [o2 6 (by decide), o2 7 (by decide)]; exact t0), (by rw [o2 6 (by decide), o2 7 (by decide)]; exact t1), (by rw [o2 6 (by decide), o2 7 (by decide)]; exact t2), (by rw [o2 6 (by decide), o2 7 (by decide)]; exact t3), (at_tr at0 (o2 7 (by decide)) (o2 12 (by decide))), (at_tr at1 (o2 7 (by decide)) (o2 12 (by decide))), (at_tr at2 (o2 7 (by decide)) (o2 12 (by decide))), (at_tr at3 (o2 7 (by decide)) (o2 12 (by decide))), (ht_tr ht0 (o2 7 (by decide)) (o2 9 (by decide))), (ht_tr ht1 (o2 7 (by decide)) (o2 9 (by decide))), (ht_tr ht2 (o2 7 (by decide)) (o2 9 (by decide))), (ht_tr ht3 (o2 7 (by decide)) (o2 9 (by decide)))⟩
  have hS := hQ2.2
  have hP4 : PW g ad2 20 S4 H := hQ2.1
  have hP3 : PW g ad1 122 S1 H := pw_kept hP3 hk2 (fun i j hi hj e => hne j i hj hi e.symm)
  have hR4 : RR S1 S4 := rr_eq hR rfl rfl rfl (o2 13 (by decide)) (o2 1 (by decide)) (o2 2 (by decide))
  refine lv_pop hx hb dL_law_859 rfl ?_
  refine lv_goto (tgt := 2159) hx hb dL_law_860 (by decide) ?_
  exact K S1 S4 H locs ls hG3 hG4 hR4 hP3 hP4 hS hl
set_option maxHeartbeats 4000000 in
set_option maxRecDepth 100000 in
theorem law_case_21 {p : Program} {l : Launch} {e : Env} {s : State} {m : MethodId} {below : List Frame} {meth : Method} {c : Code} {b L : Nat} {xs : Nat → Int32} (C0 : lw_At p s m meth c b L xs) {g : GG} {tt : TT} {ad1 ad2 : Nat → Nat} (hK : KK g s) (hT : TW tt (fun q : Nat => s.heap.size ≤ q) s s.heap) (hD1 : Dj ad1 122) (hD2 : Dj ad2 20) (hA1 : ∀ i, i < 122 → (fun q : Nat => s.heap.size ≤ q) (ad1 i)) (hA2 : ∀ i, i < 20 → (fun q : Nat => s.heap.size ≤ q) (ad2 i)) (hne : ∀ i j, i < 122 → j < 20 → ad1 i ≠ ad2 j) {i : Nat} (hi : i + 6 ≤ L) (hL : L ≤ 3072) {S1 S2 : SS} (hG1 : GX g ad1 S1) (hG2 : GM g ad2 S2) (hR : RR S1 S2) {H : Heap} {locs : List Loc} (hP1 : PW g ad1 122 S1 H) (hP2 : PW g ad2 20 S2 H) (hS : va_S (fun q : Nat => s.heap.size ≤ q) s.heap H locs) {ls : Array Slot} (hl : lv_has ls 4 [(0, .ref b), (1, .ref (ad1 0)), (2, .ref (ad2 0)), (3, .int (nI i))]) (K : (∀ (S1 S2 : SS) (H : Heap) (locs : List Loc) (ls : Array Slot), GX g ad1 S1 → GM g ad2 S2 → RR S1 S2 → PW g ad1 122 S1 H → PW g ad2 20 S2 H → va_S (fun q : Nat => s.heap.size ≤ q) s.heap H locs → lv_has ls 4 [(0, .ref b), (1, .ref (ad1 0)), (2, .ref (ad2 0)), (3, .int (nI i))] → W p l e room_1 s m #[Value.ref b] below meth c H locs 142 12631 (lw_Z below #[Value.ref b] s) (F0 m 2159 ls []))) : W p l e room_1 s m #[Value.ref b] below meth c H locs 142 12631 (lw_Z below #[Value.ref b] s) (F0 m 863 ls []) := by
  obtain ⟨hx, hb, hr, hml, hown, hts, hX, hbl, hlocks, hgv⟩ := id C0
  have hbA : ¬ (fun q : Nat => s.heap.size ≤ q) b := Nat.not_le.mpr hbl
  have E : Ev p s m #[Value.ref b] c cL_law "EbbWreckLaw" g := ⟨hx, hb, hown, fun w h => hts w (List.mem_filter.mp h).1, hK⟩
  refine lv_aload_n hx hb dL_law_863 rfl (lv_at hl 1 rfl) ?_
  refine lv_aload_n hx hb dL_law_864 rfl (lv_at hl 0 rfl) ?_
  refine lv_iload_n hx hb dL_law_865 rfl (lv_at hl 3 rfl) ?_
  refine lv_iconst (v := 1) hx hb dL_law_866 (by decide) ?_
  refine lv_iadd hx hb dL_law_867 ?_
  refine sb_at (P := fun z => W _ _ _ _ _ _ _ _ _ _ _ _ _ _ _ (F0 _ _ _ (.int z :: _))) (nI_add i 1) ?_
  refine va_sld hx hb hX hbl hbA hS (vp_in_nI (show i + 1 < L by omega) (by omega)) dL_law_868 ?_
  refine sb_at (P := fun z => W _ _ _ _ _ _ _ _ _ _ _ _ _ _ _ (F0 _ _ _ (.int z :: _))) (show xs (nI (i + 1)).toNatClampNeg = xs (i + 1) by rw [nI_clamp (by omega)]) ?_
  obtain ⟨hI1, r2, r39, r57, r75, ar2, ar39, ar57, ar75⟩ := id hG1
  obtain ⟨_, _, _, cc1, _⟩ := invX_0 hI1
  refine xcVi E ⟨hD1, hA1⟩ (⟨hP1, hS⟩ : Hp g ad1 122 S1 (fun q : Nat => s.heap.size ≤ q) s.heap H locs) hml hl.1 0 (gX11_strike_0 l g ad1 hD1 S1 hI1 (xs (i + 1)) (by omega) (by omega) (by omega)) mX11_strike q1028 (by decide) cc1 rfl rfl ⟨(Nat.le_of_ble_eq_true rfl), (Nat.le_of_ble_eq_true rfl)⟩ ⟨(Nat.le_of_ble_eq_true rfl), (Nat.le_of_ble_eq_true rfl)⟩ (Nat.le_of_ble_eq_true rfl) rfl dL_law_869 (fun r1 S3 H locs hp1 hQ1 hk1 => ?_)
  obtain ⟨rfl, bb1⟩ := hp1
  have hG3 := hG1
  have hP3 : PW g ad1 122 S1 H := hQ1.1
  have hS := hQ1.2
  have hP2 : PW g ad2 20 S2 H := pw_kept hP2 hk1 hne
  refine lv_pop hx hb dL_law_872 rfl ?_
  refine lv_aload_n hx hb dL_law_873 rfl (lv_at hl 2 rfl) ?_
  refine lv_aload_n hx hb dL_law_874 rfl (lv_at hl 0 rfl) ?_
  refine lv_iload_n hx hb dL_law_875 rfl (lv_at hl 3 rfl) ?_
  refine lv_iconst (v := 1) hx hb dL_law_876 (by decide) ?_
  refine lv_iadd hx hb dL_law_877 ?_
  refine sb_at (P := fun z => W _ _ _ _ _ _ _ _ _ _ _ _ _ _ _ (F0 _ _ _ (.int z :: _))) (nI_add i 1) ?_
  refine va_sld hx hb hX hbl hbA hS (vp_in_nI (show i + 1 < L by omega) (by omega)) dL_law_878 ?_
  refine sb_at (P := fun z => W _ _ _ _ _ _ _ _ _ _ _ _ _ _ _ (F0 _ _ _ (.int z :: _))) (show xs (nI (i + 1)).toNatClampNeg = xs (i + 1) by rw [nI_clamp (by omega)]) ?_
  obtain ⟨hI2, t0, t1, t2, t3, at0, at1, at2, at3, ht0, ht1, ht2, ht3⟩ := id hG2
  obtain ⟨_, _, _, _, _, _, _, _, _, _, _, _, _, _, _, _, _, _, _, cc2, _, _, _, _, _, _, _, _, _⟩ := invM_0 hI2
  refine xcVi E ⟨hD2, hA2⟩ (⟨hP2, hS⟩ : Hp g ad2 20 S2 (fun q : Nat => s.heap.size ≤ q) s.heap H locs) hml hl.1 0 (gX12_strike_0 l g ad2 hD2 S2 hI2 (xs (i + 1)) (by omega) (by omega) (by omega) (by omega) (by omega) at0) mX12_strike q1914 (by decide) cc2 rfl rfl ⟨(Nat.le_of_ble_eq_true rfl), (Nat.le_of_ble_eq_true rfl)⟩ ⟨(Nat.le_of_ble_eq_true rfl), (Nat.le_of_ble_eq_true rfl)⟩ (Nat.le_of_ble_eq_true rfl) rfl dL_law_879 (fun r2 S4 H locs hp2 hQ2 hk2 => ?_)
  obtain ⟨hI4, o2, bb2⟩ := hp2
  have hG4 : GM g ad2 S4 := ⟨hI4, (by rw [o2 6 (by decide), o2 7 (by decide)]; exact t0), (by rw [o2 6 (by decide), o2 7 (by decide)]; exact t1), (by rw [o2 6 (by decide), o2 7 (by decide)]; exact t2), (by rw [o2 6 (by decide), o2 7 (by decide)]; exact t3), (at_tr at0 (o2 7 (by decide)) (o2 12 (by decide))), (at_tr at1 (o2 7 (by decide)) (o2 12 (by decide))), (at_tr at2 (o2 7 (by decide)) (o2 12 (by decide))), (at_tr at3 (o2 7 (by decide)) (o2 12 (by decide))), (ht_tr ht0 (o2 7 (by decide)) (o2 9 (by decide))), (ht_tr ht1 (o2 7 (by decide)) (o2 9 (by decide))), (ht_tr ht2 (o2 7 (by decide)) (o2 9 (by decide))), (ht_tr ht3 (o2 7 (by decide)) (o2 9 (by decide)))⟩
  have hS := hQ2.2
  have hP4 : PW g ad2 20 S4 H := hQ2.1
  have hP3 : PW g ad1 122 S1 H := pw_kept hP3 hk2 (fun i j hi hj e => hne j i hj hi e.symm)
  have hR4 : RR S1 S4 := rr_eq hR rfl rfl rfl (o2 13 (by decide)) (o2 1 (by decide)) (o2 2 (by decide))
  refine lv_pop hx hb dL_law_882 rfl ?_
  refine lv_goto (tgt := 2159) hx hb dL_law_883 (by decide) ?_
  exact K S1 S4 H locs ls hG3 hG4 hR4 hP3 hP4 hS hl
set_option maxHeartbeats 4000000 in
set_option maxRecDepth 100000 in
theorem law_case_22 {p : Program} {l : Launch} {e : Env} {s : State} {m : MethodId} {below : List Frame} {meth : Method} {c : Code} {b L : Nat} {xs : Nat → Int32} (C0 : lw_At p s m meth c b L xs) {g : GG} {tt : TT} {ad1 ad2 : Nat → Nat} (hK : KK g s) (hT : TW tt (fun q : Nat => s.heap.size ≤ q) s s.heap) (hD1 : Dj ad1 122) (hD2 : Dj ad2 20) (hA1 : ∀ i, i < 122 → (fun q : Nat => s.heap.size ≤ q) (ad1 i)) (hA2 : ∀ i, i < 20 → (fun q : Nat => s.heap.size ≤ q) (ad2 i)) (hne : ∀ i j, i < 122 → j < 20 → ad1 i ≠ ad2 j) {i : Nat} (hi : i + 6 ≤ L) (hL : L ≤ 3072) {S1 S2 : SS} (hG1 : GX g ad1 S1) (hG2 : GM g ad2 S2) (hR : RR S1 S2) {H : Heap} {locs : List Loc} (hP1 : PW g ad1 122 S1 H) (hP2 : PW g ad2 20 S2 H) (hS : va_S (fun q : Nat => s.heap.size ≤ q) s.heap H locs) {ls : Array Slot} (hl : lv_has ls 4 [(0, .ref b), (1, .ref (ad1 0)), (2, .ref (ad2 0)), (3, .int (nI i))]) (K : (∀ (S1 S2 : SS) (H : Heap) (locs : List Loc) (ls : Array Slot), GX g ad1 S1 → GM g ad2 S2 → RR S1 S2 → PW g ad1 122 S1 H → PW g ad2 20 S2 H → va_S (fun q : Nat => s.heap.size ≤ q) s.heap H locs → lv_has ls 4 [(0, .ref b), (1, .ref (ad1 0)), (2, .ref (ad2 0)), (3, .int (nI i))] → W p l e room_1 s m #[Value.ref b] below meth c H locs 142 12631 (lw_Z below #[Value.ref b] s) (F0 m 2159 ls []))) : W p l e room_1 s m #[Value.ref b] below meth c H locs 142 12631 (lw_Z below #[Value.ref b] s) (F0 m 886 ls []) := by
  obtain ⟨hx, hb, hr, hml, hown, hts, hX, hbl, hlocks, hgv⟩ := id C0
  have hbA : ¬ (fun q : Nat => s.heap.size ≤ q) b := Nat.not_le.mpr hbl
  have E : Ev p s m #[Value.ref b] c cL_law "EbbWreckLaw" g := ⟨hx, hb, hown, fun w h => hts w (List.mem_filter.mp h).1, hK⟩
  refine lv_aload_n hx hb dL_law_886 rfl (lv_at hl 1 rfl) ?_
  refine lv_aload_n hx hb dL_law_887 rfl (lv_at hl 0 rfl) ?_
  refine lv_iload_n hx hb dL_law_888 rfl (lv_at hl 3 rfl) ?_
  refine lv_iconst (v := 1) hx hb dL_law_889 (by decide) ?_
  refine lv_iadd hx hb dL_law_890 ?_
  refine sb_at (P := fun z => W _ _ _ _ _ _ _ _ _ _ _ _ _ _ _ (F0 _ _ _ (.int z :: _))) (nI_add i 1) ?_
  refine va_sld hx hb hX hbl hbA hS (vp_in_nI (show i + 1 < L by omega) (by omega)) dL_law_891 ?_
  refine sb_at (P := fun z => W _ _ _ _ _ _ _ _ _ _ _ _ _ _ _ (F0 _ _ _ (.int z :: _))) (show xs (nI (i + 1)).toNatClampNeg = xs (i + 1) by rw [nI_clamp (by omega)]) ?_
  refine lv_aload_n hx hb dL_law_892 rfl (lv_at hl 0 rfl) ?_
  refine lv_iload_n hx hb dL_law_893 rfl (lv_at hl 3 rfl) ?_
  refine lv_iconst (v := 2) hx hb dL_law_894 (by decide) ?_
  refine lv_iadd hx hb dL_law_895 ?_
  refine sb_at (P := fun z => W _ _ _ _ _ _ _ _ _ _ _ _ _ _ _ (F0 _ _ _ (.int z :: _))) (nI_add i 2) ?_
  refine va_sld hx hb hX hbl hbA hS (vp_in_nI (show i + 2 < L by omega) (by omega)) dL_law_896 ?_
  refine sb_at (P := fun z => W _ _ _ _ _ _ _ _ _ _ _ _ _ _ _ (F0 _ _ _ (.int z :: _))) (show xs (nI (i + 2)).toNatClampNeg = xs (i + 2) by rw [nI_clamp (by omega)]) ?_
  obtain ⟨hI1, r2, r39, r57, r75, ar2, ar39, ar57, ar75⟩ := id hG1
  obtain ⟨_, _, _, cc1, _⟩ := invX_0 hI1
  refine xcVi E ⟨hD1, hA1⟩ (⟨hP1, hS⟩ : Hp g ad1 122 S1 (fun q : Nat => s.heap.size ≤ q) s.heap H locs) hml hl.1 0 (gX11_pushes_0 l g ad1 hD1 S1 hI1 (xs (i + 1)) (xs (i + 2)) (by omega) (by omega) (by omega)) mX11_pushes q1040 (by decide) cc1 rfl rfl ⟨(Nat.le_of_ble_eq_true rfl), (Nat.le_of_ble_eq_true rfl)⟩ ⟨(Nat.le_of_ble_eq_true rfl), (Nat.le_of_ble_eq_true rfl)⟩ (Nat.le_of_ble_eq_true rfl) rfl dL_law_897 (fun r1 S3 H locs hp1 hQ1 hk1 => ?_)
  obtain ⟨hI3, o1⟩ := hp1
  have hG3 : GX g ad1 S3 := ⟨hI3, (by rw [o1 2 (by decide)]; exact r2), (by rw [o1 39 (by decide)]; exact r39), (by rw [o1 57 (by decide)]; exact r57), (by rw [o1 75 (by decide)]; exact r75), (ar_tr ar2 (o1 16 (by decide)) (o1 17 (by decide)) (o1 18 (by decide)) (o1 19 (by decide))), (ar_tr ar39 (o1 53 (by decide)) (o1 54 (by decide)) (o1 55 (by decide)) (o1 56 (by decide))), (ar_tr ar57 (o1 71 (by decide)) (o1 72 (by decide)) (o1 73 (by decide)) (o1 74 (by decide))), (ar_tr ar75 (o1 89 (by decide)) (o1 90 (by decide)) (o1 91 (by decide)) (o1 92 (by decide)))⟩
  have hP3 : PW g ad1 122 S3 H := hQ1.1
  have hS := hQ1.2
  have hP2 : PW g ad2 20 S2 H := pw_kept hP2 hk1 hne
  refine lv_pop hx hb dL_law_900 rfl ?_
  refine lv_aload_n hx hb dL_law_901 rfl (lv_at hl 2 rfl) ?_
  refine lv_aload_n hx hb dL_law_902 rfl (lv_at hl 0 rfl) ?_
  refine lv_iload_n hx hb dL_law_903 rfl (lv_at hl 3 rfl) ?_
  refine lv_iconst (v := 1) hx hb dL_law_904 (by decide) ?_
  refine lv_iadd hx hb dL_law_905 ?_
  refine sb_at (P := fun z => W _ _ _ _ _ _ _ _ _ _ _ _ _ _ _ (F0 _ _ _ (.int z :: _))) (nI_add i 1) ?_
  refine va_sld hx hb hX hbl hbA hS (vp_in_nI (show i + 1 < L by omega) (by omega)) dL_law_906 ?_
  refine sb_at (P := fun z => W _ _ _ _ _ _ _ _ _ _ _ _ _ _ _ (F0 _ _ _ (.int z :: _))) (show xs (nI (i + 1)).toNatClampNeg = xs (i + 1) by rw [nI_clamp (by omega)]) ?_
  refine lv_aload_n hx hb dL_law_907 rfl (lv_at hl 0 rfl) ?_
  refine lv_iload_n hx hb dL_law_908 rfl (lv_at hl 3 rfl) ?_
  refine lv_iconst (v := 2) hx hb dL_law_909 (by decide) ?_
  refine lv_iadd hx hb dL_law_910 ?_
  refine sb_at (P := fun z => W _ _ _ _ _ _ _ _ _ _ _ _ _ _ _ (F0 _ _ _ (.int z :: _))) (nI_add i 2) ?_
  refine va_sld hx hb hX hbl hbA hS (vp_in_nI (show i + 2 < L by omega) (by omega)) dL_law_911 ?_
  refine sb_at (P := fun z => W _ _ _ _ _ _ _ _ _ _ _ _ _ _ _ (F0 _ _ _ (.int z :: _))) (show xs (nI (i + 2)).toNatClampNeg = xs (i + 2) by rw [nI_clamp (by omega)]) ?_
  obtain ⟨hI2, t0, t1, t2, t3, at0, at1, at2, at3, ht0, ht1, ht2, ht3⟩ := id hG2
  obtain ⟨_, _, _, _, _, _, _, _, _, _, _, _, _, _, _, _, _, _, _, cc2, _, _, _, _, _, _, _, _, _⟩ := invM_0 hI2
  refine xcVi E ⟨hD2, hA2⟩ (⟨hP2, hS⟩ : Hp g ad2 20 S2 (fun q : Nat => s.heap.size ≤ q) s.heap H locs) hml hl.1 0 (gX12_pushes_0 l g ad2 hD2 S2 hI2 (xs (i + 1)) (xs (i + 2)) (by omega) (by omega) (by omega) (by omega) (by omega)) mX12_pushes q1918 (by decide) cc2 rfl rfl ⟨(Nat.le_of_ble_eq_true rfl), (Nat.le_of_ble_eq_true rfl)⟩ ⟨(Nat.le_of_ble_eq_true rfl), (Nat.le_of_ble_eq_true rfl)⟩ (Nat.le_of_ble_eq_true rfl) rfl dL_law_912 (fun r2 S4 H locs hp2 hQ2 hk2 => ?_)
  obtain ⟨hI4, o2, bb2⟩ := hp2
  have hG4 : GM g ad2 S4 := ⟨hI4, (by rw [o2 6 (by decide), o2 7 (by decide)]; exact t0), (by rw [o2 6 (by decide), o2 7 (by decide)]; exact t1), (by rw [o2 6 (by decide), o2 7 (by decide)]; exact t2), (by rw [o2 6 (by decide), o2 7 (by decide)]; exact t3), (at_tr at0 (o2 7 (by decide)) (o2 12 (by decide))), (at_tr at1 (o2 7 (by decide)) (o2 12 (by decide))), (at_tr at2 (o2 7 (by decide)) (o2 12 (by decide))), (at_tr at3 (o2 7 (by decide)) (o2 12 (by decide))), (ht_tr ht0 (o2 7 (by decide)) (o2 9 (by decide))), (ht_tr ht1 (o2 7 (by decide)) (o2 9 (by decide))), (ht_tr ht2 (o2 7 (by decide)) (o2 9 (by decide))), (ht_tr ht3 (o2 7 (by decide)) (o2 9 (by decide)))⟩
  have hS := hQ2.2
  have hP4 : PW g ad2 20 S4 H := hQ2.1
  have hP3 : PW g ad1 122 S3 H := pw_kept hP3 hk2 (fun i j hi hj e => hne j i hj hi e.symm)
  have hR4 : RR S3 S4 := rr_eq hR (o1 93 (by decide)) (o1 117 (by decide)) (o1 118 (by decide)) (o2 13 (by decide)) (o2 1 (by decide)) (o2 2 (by decide))
  refine lv_pop hx hb dL_law_915 rfl ?_
  refine lv_goto (tgt := 2159) hx hb dL_law_916 (by decide) ?_
  exact K S3 S4 H locs ls hG3 hG4 hR4 hP3 hP4 hS hl
set_option maxHeartbeats 4000000 in
set_option maxRecDepth 100000 in
theorem law_case_23 {p : Program} {l : Launch} {e : Env} {s : State} {m : MethodId} {below : List Frame} {meth : Method} {c : Code} {b L : Nat} {xs : Nat → Int32} (C0 : lw_At p s m meth c b L xs) {g : GG} {tt : TT} {ad1 ad2 : Nat → Nat} (hK : KK g s) (hT : TW tt (fun q : Nat => s.heap.size ≤ q) s s.heap) (hD1 : Dj ad1 122) (hD2 : Dj ad2 20) (hA1 : ∀ i, i < 122 → (fun q : Nat => s.heap.size ≤ q) (ad1 i)) (hA2 : ∀ i, i < 20 → (fun q : Nat => s.heap.size ≤ q) (ad2 i)) (hne : ∀ i j, i < 122 → j < 20 → ad1 i ≠ ad2 j) {i : Nat} (hi : i + 6 ≤ L) (hL : L ≤ 3072) {S1 S2 : SS} (hG1 : GX g ad1 S1) (hG2 : GM g ad2 S2) (hR : RR S1 S2) {H : Heap} {locs : List Loc} (hP1 : PW g ad1 122 S1 H) (hP2 : PW g ad2 20 S2 H) (hS : va_S (fun q : Nat => s.heap.size ≤ q) s.heap H locs) {ls : Array Slot} (hl : lv_has ls 4 [(0, .ref b), (1, .ref (ad1 0)), (2, .ref (ad2 0)), (3, .int (nI i))]) (K : (∀ (S1 S2 : SS) (H : Heap) (locs : List Loc) (ls : Array Slot), GX g ad1 S1 → GM g ad2 S2 → RR S1 S2 → PW g ad1 122 S1 H → PW g ad2 20 S2 H → va_S (fun q : Nat => s.heap.size ≤ q) s.heap H locs → lv_has ls 4 [(0, .ref b), (1, .ref (ad1 0)), (2, .ref (ad2 0)), (3, .int (nI i))] → W p l e room_1 s m #[Value.ref b] below meth c H locs 142 12631 (lw_Z below #[Value.ref b] s) (F0 m 2159 ls []))) : W p l e room_1 s m #[Value.ref b] below meth c H locs 142 12631 (lw_Z below #[Value.ref b] s) (F0 m 919 ls []) := by
  obtain ⟨hx, hb, hr, hml, hown, hts, hX, hbl, hlocks, hgv⟩ := id C0
  have hbA : ¬ (fun q : Nat => s.heap.size ≤ q) b := Nat.not_le.mpr hbl
  have E : Ev p s m #[Value.ref b] c cL_law "EbbWreckLaw" g := ⟨hx, hb, hown, fun w h => hts w (List.mem_filter.mp h).1, hK⟩
  refine lv_aload_n hx hb dL_law_919 rfl (lv_at hl 1 rfl) ?_
  refine lv_aload_n hx hb dL_law_920 rfl (lv_at hl 0 rfl) ?_
  refine lv_iload_n hx hb dL_law_921 rfl (lv_at hl 3 rfl) ?_
  refine lv_iconst (v := 1) hx hb dL_law_922 (by decide) ?_
  refine lv_iadd hx hb dL_law_923 ?_
  refine sb_at (P := fun z => W _ _ _ _ _ _ _ _ _ _ _ _ _ _ _ (F0 _ _ _ (.int z :: _))) (nI_add i 1) ?_
  refine va_sld hx hb hX hbl hbA hS (vp_in_nI (show i + 1 < L by omega) (by omega)) dL_law_924 ?_
  refine sb_at (P := fun z => W _ _ _ _ _ _ _ _ _ _ _ _ _ _ _ (F0 _ _ _ (.int z :: _))) (show xs (nI (i + 1)).toNatClampNeg = xs (i + 1) by rw [nI_clamp (by omega)]) ?_
  refine lv_aload_n hx hb dL_law_925 rfl (lv_at hl 0 rfl) ?_
  refine lv_iload_n hx hb dL_law_926 rfl (lv_at hl 3 rfl) ?_
  refine lv_iconst (v := 2) hx hb dL_law_927 (by decide) ?_
  refine lv_iadd hx hb dL_law_928 ?_
  refine sb_at (P := fun z => W _ _ _ _ _ _ _ _ _ _ _ _ _ _ _ (F0 _ _ _ (.int z :: _))) (nI_add i 2) ?_
  refine va_sld hx hb hX hbl hbA hS (vp_in_nI (show i + 2 < L by omega) (by omega)) dL_law_929 ?_
  refine sb_at (P := fun z => W _ _ _ _ _ _ _ _ _ _ _ _ _ _ _ (F0 _ _ _ (.int z :: _))) (show xs (nI (i + 2)).toNatClampNeg = xs (i + 2) by rw [nI_clamp (by omega)]) ?_
  refine lv_aload_n hx hb dL_law_930 rfl (lv_at hl 0 rfl) ?_
  refine lv_iload_n hx hb dL_law_931 rfl (lv_at hl 3 rfl) ?_
  refine lv_iconst (v := 3) hx hb dL_law_932 (by decide) ?_
  refine lv_iadd hx hb dL_law_933 ?_
  refine sb_at (P := fun z => W _ _ _ _ _ _ _ _ _ _ _ _ _ _ _ (F0 _ _ _ (.int z :: _))) (nI_add i 3) ?_
  refine va_sld hx hb hX hbl hbA hS (vp_in_nI (show i + 3 < L by omega) (by omega)) dL_law_934 ?_
  refine sb_at (P := fun z => W _ _ _ _ _ _ _ _ _ _ _ _ _ _ _ (F0 _ _ _ (.int z :: _))) (show xs (nI (i + 3)).toNatClampNeg = xs (i + 3) by rw [nI_clamp (by omega)]) ?_
  obtain ⟨hI1, r2, r39, r57, r75, ar2, ar39, ar57, ar75⟩ := id hG1
  obtain ⟨_, _, _, cc1, _⟩ := invX_0 hI1
  refine xcVi E ⟨hD1, hA1⟩ (⟨hP1, hS⟩ : Hp g ad1 122 S1 (fun q : Nat => s.heap.size ≤ q) s.heap H locs) hml hl.1 0 (gX11_push_0 l g ad1 hD1 S1 hI1 (xs (i + 1)) (xs (i + 2)) (xs (i + 3)) (by omega) (by omega) (by omega)) mX11_push q1073 (by decide) cc1 rfl rfl ⟨(Nat.le_of_ble_eq_true rfl), (Nat.le_of_ble_eq_true rfl)⟩ ⟨(Nat.le_of_ble_eq_true rfl), (Nat.le_of_ble_eq_true rfl)⟩ (Nat.le_of_ble_eq_true rfl) rfl dL_law_935 (fun r1 S3 H locs hp1 hQ1 hk1 => ?_)
  obtain ⟨hI3, o1, bb1⟩ := hp1
  have hG3 : GX g ad1 S3 := ⟨hI3, (by rw [o1 2 (by decide)]; exact r2), (by rw [o1 39 (by decide)]; exact r39), (by rw [o1 57 (by decide)]; exact r57), (by rw [o1 75 (by decide)]; exact r75), (ar_tr ar2 (o1 16 (by decide)) (o1 17 (by decide)) (o1 18 (by decide)) (o1 19 (by decide))), (ar_tr ar39 (o1 53 (by decide)) (o1 54 (by decide)) (o1 55 (by decide)) (o1 56 (by decide))), (ar_tr ar57 (o1 71 (by decide)) (o1 72 (by decide)) (o1 73 (by decide)) (o1 74 (by decide))), (ar_tr ar75 (o1 89 (by decide)) (o1 90 (by decide)) (o1 91 (by decide)) (o1 92 (by decide)))⟩
  have hP3 : PW g ad1 122 S3 H := hQ1.1
  have hS := hQ1.2
  have hP2 : PW g ad2 20 S2 H := pw_kept hP2 hk1 hne
  refine lv_pop hx hb dL_law_938 rfl ?_
  refine lv_aload_n hx hb dL_law_939 rfl (lv_at hl 2 rfl) ?_
  refine lv_aload_n hx hb dL_law_940 rfl (lv_at hl 0 rfl) ?_
  refine lv_iload_n hx hb dL_law_941 rfl (lv_at hl 3 rfl) ?_
  refine lv_iconst (v := 1) hx hb dL_law_942 (by decide) ?_
  refine lv_iadd hx hb dL_law_943 ?_
  refine sb_at (P := fun z => W _ _ _ _ _ _ _ _ _ _ _ _ _ _ _ (F0 _ _ _ (.int z :: _))) (nI_add i 1) ?_
  refine va_sld hx hb hX hbl hbA hS (vp_in_nI (show i + 1 < L by omega) (by omega)) dL_law_944 ?_
  refine sb_at (P := fun z => W _ _ _ _ _ _ _ _ _ _ _ _ _ _ _ (F0 _ _ _ (.int z :: _))) (show xs (nI (i + 1)).toNatClampNeg = xs (i + 1) by rw [nI_clamp (by omega)]) ?_
  refine lv_aload_n hx hb dL_law_945 rfl (lv_at hl 0 rfl) ?_
  refine lv_iload_n hx hb dL_law_946 rfl (lv_at hl 3 rfl) ?_
  refine lv_iconst (v := 2) hx hb dL_law_947 (by decide) ?_
  refine lv_iadd hx hb dL_law_948 ?_
  refine sb_at (P := fun z => W _ _ _ _ _ _ _ _ _ _ _ _ _ _ _ (F0 _ _ _ (.int z :: _))) (nI_add i 2) ?_
  refine va_sld hx hb hX hbl hbA hS (vp_in_nI (show i + 2 < L by omega) (by omega)) dL_law_949 ?_
  refine sb_at (P := fun z => W _ _ _ _ _ _ _ _ _ _ _ _ _ _ _ (F0 _ _ _ (.int z :: _))) (show xs (nI (i + 2)).toNatClampNeg = xs (i + 2) by rw [nI_clamp (by omega)]) ?_
  refine lv_aload_n hx hb dL_law_950 rfl (lv_at hl 0 rfl) ?_
  refine lv_iload_n hx hb dL_law_951 rfl (lv_at hl 3 rfl) ?_
  refine lv_iconst (v := 3) hx hb dL_law_952 (by decide) ?_
  refine lv_iadd hx hb dL_law_953 ?_
  refine sb_at (P := fun z => W _ _ _ _ _ _ _ _ _ _ _ _ _ _ _ (F0 _ _ _ (.int z :: _))) (nI_add i 3) ?_
  refine va_sld hx hb hX hbl hbA hS (vp_in_nI (show i + 3 < L by omega) (by omega)) dL_law_954 ?_
  refine sb_at (P := fun z => W _ _ _ _ _ _ _ _ _ _ _ _ _ _ _ (F0 _ _ _ (.int z :: _))) (show xs (nI (i + 3)).toNatClampNeg = xs (i + 3) by rw [nI_clamp (by omega)]) ?_
  obtain ⟨hI2, t0, t1, t2, t3, at0, at1, at2, at3, ht0, ht1, ht2, ht3⟩ := id hG2
  obtain ⟨_, _, _, _, _, _, _, _, _, _, _, _, _, _, _, _, _, _, _, cc2, _, _, _, _, _, _, _, _, _⟩ := invM_0 hI2
  refine xcVi E ⟨hD2, hA2⟩ (⟨hP2, hS⟩ : Hp g ad2 20 S2 (fun q : Nat => s.heap.size ≤ q) s.heap H locs) hml hl.1 0 (gX12_push_0 l g ad2 hD2 S2 hI2 (xs (i + 1)) (xs (i + 2)) (xs (i + 3)) (by omega) (by omega) (by omega) (by omega) (by omega) ht0) mX12_push q1938 (by decide) cc2 rfl rfl ⟨(Nat.le_of_ble_eq_true rfl), (Nat.le_of_ble_eq_true rfl)⟩ ⟨(Nat.le_of_ble_eq_true rfl), (Nat.le_of_ble_eq_true rfl)⟩ (Nat.le_of_ble_eq_true rfl) rfl dL_law_955 (fun r2 S4 H locs hp2 hQ2 hk2 => ?_)
  obtain ⟨hI4, o2, bb2⟩ := hp2
  have hG4 : GM g ad2 S4 := ⟨hI4, (by rw [o2 6 (by decide), o2 7 (by decide)]; exact t0), (by rw [o2 6 (by decide), o2 7 (by decide)]; exact t1), (by rw [o2 6 (by decide), o2 7 (by decide)]; exact t2), (by rw [o2 6 (by decide), o2 7 (by decide)]; exact t3), (at_tr at0 (o2 7 (by decide)) (o2 12 (by decide))), (at_tr at1 (o2 7 (by decide)) (o2 12 (by decide))), (at_tr at2 (o2 7 (by decide)) (o2 12 (by decide))), (at_tr at3 (o2 7 (by decide)) (o2 12 (by decide))), (ht_tr ht0 (o2 7 (by decide)) (o2 9 (by decide))), (ht_tr ht1 (o2 7 (by decide)) (o2 9 (by decide))), (ht_tr ht2 (o2 7 (by decide)) (o2 9 (by decide))), (ht_tr ht3 (o2 7 (by decide)) (o2 9 (by decide)))⟩
  have hS := hQ2.2
  have hP4 : PW g ad2 20 S4 H := hQ2.1
  have hP3 : PW g ad1 122 S3 H := pw_kept hP3 hk2 (fun i j hi hj e => hne j i hj hi e.symm)
  have hR4 : RR S3 S4 := rr_eq hR (o1 93 (by decide)) (o1 117 (by decide)) (o1 118 (by decide)) (o2 13 (by decide)) (o2 1 (by decide)) (o2 2 (by decide))
  refine lv_pop hx hb dL_law_958 rfl ?_
  refine lv_goto (tgt := 2159) hx hb dL_law_959 (by decide) ?_
  exact K S3 S4 H locs ls hG3 hG4 hR4 hP3 hP4 hS hl
set_option maxHeartbeats 4000000 in
set_option maxRecDepth 100000 in
theorem law_case_24 {p : Program} {l : Launch} {e : Env} {s : State} {m : MethodId} {below : List Frame} {meth : Method} {c : Code} {b L : Nat} {xs : Nat → Int32} (C0 : lw_At p s m meth c b L xs) {g : GG} {tt : TT} {ad1 ad2 : Nat → Nat} (hK : KK g s) (hT : TW tt (fun q : Nat => s.heap.size ≤ q) s s.heap) (hD1 : Dj ad1 122) (hD2 : Dj ad2 20) (hA1 : ∀ i, i < 122 → (fun q : Nat => s.heap.size ≤ q) (ad1 i)) (hA2 : ∀ i, i < 20 → (fun q : Nat => s.heap.size ≤ q) (ad2 i)) (hne : ∀ i j, i < 122 → j < 20 → ad1 i ≠ ad2 j) {i : Nat} (hi : i + 6 ≤ L) (hL : L ≤ 3072) {S1 S2 : SS} (hG1 : GX g ad1 S1) (hG2 : GM g ad2 S2) (hR : RR S1 S2) {H : Heap} {locs : List Loc} (hP1 : PW g ad1 122 S1 H) (hP2 : PW g ad2 20 S2 H) (hS : va_S (fun q : Nat => s.heap.size ≤ q) s.heap H locs) {ls : Array Slot} (hl : lv_has ls 4 [(0, .ref b), (1, .ref (ad1 0)), (2, .ref (ad2 0)), (3, .int (nI i))]) (K : (∀ (S1 S2 : SS) (H : Heap) (locs : List Loc) (ls : Array Slot), GX g ad1 S1 → GM g ad2 S2 → RR S1 S2 → PW g ad1 122 S1 H → PW g ad2 20 S2 H → va_S (fun q : Nat => s.heap.size ≤ q) s.heap H locs → lv_has ls 4 [(0, .ref b), (1, .ref (ad1 0)), (2, .ref (ad2 0)), (3, .int (nI i))] → W p l e room_1 s m #[Value.ref b] below meth c H locs 142 12631 (lw_Z below #[Value.ref b] s) (F0 m 2159 ls []))) : W p l e room_1 s m #[Value.ref b] below meth c H locs 142 12631 (lw_Z below #[Value.ref b] s) (F0 m 962 ls []) := by
  obtain ⟨hx, hb, hr, hml, hown, hts, hX, hbl, hlocks, hgv⟩ := id C0
  have hbA : ¬ (fun q : Nat => s.heap.size ≤ q) b := Nat.not_le.mpr hbl
  have E : Ev p s m #[Value.ref b] c cL_law "EbbWreckLaw" g := ⟨hx, hb, hown, fun w h => hts w (List.mem_filter.mp h).1, hK⟩
  refine lv_aload_n hx hb dL_law_962 rfl (lv_at hl 1 rfl) ?_
  refine lv_aload_n hx hb dL_law_963 rfl (lv_at hl 0 rfl) ?_
  refine lv_iload_n hx hb dL_law_964 rfl (lv_at hl 3 rfl) ?_
  refine lv_iconst (v := 1) hx hb dL_law_965 (by decide) ?_
  refine lv_iadd hx hb dL_law_966 ?_
  refine sb_at (P := fun z => W _ _ _ _ _ _ _ _ _ _ _ _ _ _ _ (F0 _ _ _ (.int z :: _))) (nI_add i 1) ?_
  refine va_sld hx hb hX hbl hbA hS (vp_in_nI (show i + 1 < L by omega) (by omega)) dL_law_967 ?_
  refine sb_at (P := fun z => W _ _ _ _ _ _ _ _ _ _ _ _ _ _ _ (F0 _ _ _ (.int z :: _))) (show xs (nI (i + 1)).toNatClampNeg = xs (i + 1) by rw [nI_clamp (by omega)]) ?_
  refine lv_aload_n hx hb dL_law_968 rfl (lv_at hl 0 rfl) ?_
  refine lv_iload_n hx hb dL_law_969 rfl (lv_at hl 3 rfl) ?_
  refine lv_iconst (v := 2) hx hb dL_law_970 (by decide) ?_
  refine lv_iadd hx hb dL_law_971 ?_
  refine sb_at (P := fun z => W _ _ _ _ _ _ _ _ _ _ _ _ _ _ _ (F0 _ _ _ (.int z :: _))) (nI_add i 2) ?_
  refine va_sld hx hb hX hbl hbA hS (vp_in_nI (show i + 2 < L by omega) (by omega)) dL_law_972 ?_
  refine sb_at (P := fun z => W _ _ _ _ _ _ _ _ _ _ _ _ _ _ _ (F0 _ _ _ (.int z :: _))) (show xs (nI (i + 2)).toNatClampNeg = xs (i + 2) by rw [nI_clamp (by omega)]) ?_
  refine lv_aload_n hx hb dL_law_973 rfl (lv_at hl 0 rfl) ?_
  refine lv_iload_n hx hb dL_law_974 rfl (lv_at hl 3 rfl) ?_
  refine lv_iconst (v := 3) hx hb dL_law_975 (by decide) ?_
  refine lv_iadd hx hb dL_law_976 ?_
  refine sb_at (P := fun z => W _ _ _ _ _ _ _ _ _ _ _ _ _ _ _ (F0 _ _ _ (.int z :: _))) (nI_add i 3) ?_
  refine va_sld hx hb hX hbl hbA hS (vp_in_nI (show i + 3 < L by omega) (by omega)) dL_law_977 ?_
  refine sb_at (P := fun z => W _ _ _ _ _ _ _ _ _ _ _ _ _ _ _ (F0 _ _ _ (.int z :: _))) (show xs (nI (i + 3)).toNatClampNeg = xs (i + 3) by rw [nI_clamp (by omega)]) ?_
  obtain ⟨hI1, r2, r39, r57, r75, ar2, ar39, ar57, ar75⟩ := id hG1
  obtain ⟨_, _, _, cc1, _⟩ := invX_0 hI1
  refine xcVi E ⟨hD1, hA1⟩ (⟨hP1, hS⟩ : Hp g ad1 122 S1 (fun q : Nat => s.heap.size ≤ q) s.heap H locs) hml hl.1 0 (gX11_way_0 l g ad1 hD1 S1 hI1 (xs (i + 1)) (xs (i + 2)) (xs (i + 3)) (by omega) (by omega) (by omega)) mX11_way q1085 (by decide) cc1 rfl rfl ⟨(Nat.le_of_ble_eq_true rfl), (Nat.le_of_ble_eq_true rfl)⟩ ⟨(Nat.le_of_ble_eq_true rfl), (Nat.le_of_ble_eq_true rfl)⟩ (Nat.le_of_ble_eq_true rfl) rfl dL_law_978 (fun r1 S3 H locs hp1 hQ1 hk1 => ?_)
  obtain ⟨hI3, o1, bb1⟩ := hp1
  have hG3 : GX g ad1 S3 := ⟨hI3, (by rw [o1 2 (by decide)]; exact r2), (by rw [o1 39 (by decide)]; exact r39), (by rw [o1 57 (by decide)]; exact r57), (by rw [o1 75 (by decide)]; exact r75), (ar_tr ar2 (o1 16 (by decide)) (o1 17 (by decide)) (o1 18 (by decide)) (o1 19 (by decide))), (ar_tr ar39 (o1 53 (by decide)) (o1 54 (by decide)) (o1 55 (by decide)) (o1 56 (by decide))), (ar_tr ar57 (o1 71 (by decide)) (o1 72 (by decide)) (o1 73 (by decide)) (o1 74 (by decide))), (ar_tr ar75 (o1 89 (by decide)) (o1 90 (by decide)) (o1 91 (by decide)) (o1 92 (by decide)))⟩
  have hP3 : PW g ad1 122 S3 H := hQ1.1
  have hS := hQ1.2
  have hP2 : PW g ad2 20 S2 H := pw_kept hP2 hk1 hne
  refine lv_pop hx hb dL_law_981 rfl ?_
  refine lv_aload_n hx hb dL_law_982 rfl (lv_at hl 2 rfl) ?_
  refine lv_aload_n hx hb dL_law_983 rfl (lv_at hl 0 rfl) ?_
  refine lv_iload_n hx hb dL_law_984 rfl (lv_at hl 3 rfl) ?_
  refine lv_iconst (v := 1) hx hb dL_law_985 (by decide) ?_
  refine lv_iadd hx hb dL_law_986 ?_
  refine sb_at (P := fun z => W _ _ _ _ _ _ _ _ _ _ _ _ _ _ _ (F0 _ _ _ (.int z :: _))) (nI_add i 1) ?_
  refine va_sld hx hb hX hbl hbA hS (vp_in_nI (show i + 1 < L by omega) (by omega)) dL_law_987 ?_
  refine sb_at (P := fun z => W _ _ _ _ _ _ _ _ _ _ _ _ _ _ _ (F0 _ _ _ (.int z :: _))) (show xs (nI (i + 1)).toNatClampNeg = xs (i + 1) by rw [nI_clamp (by omega)]) ?_
  refine lv_aload_n hx hb dL_law_988 rfl (lv_at hl 0 rfl) ?_
  refine lv_iload_n hx hb dL_law_989 rfl (lv_at hl 3 rfl) ?_
  refine lv_iconst (v := 2) hx hb dL_law_990 (by decide) ?_
  refine lv_iadd hx hb dL_law_991 ?_
  refine sb_at (P := fun z => W _ _ _ _ _ _ _ _ _ _ _ _ _ _ _ (F0 _ _ _ (.int z :: _))) (nI_add i 2) ?_
  refine va_sld hx hb hX hbl hbA hS (vp_in_nI (show i + 2 < L by omega) (by omega)) dL_law_992 ?_
  refine sb_at (P := fun z => W _ _ _ _ _ _ _ _ _ _ _ _ _ _ _ (F0 _ _ _ (.int z :: _))) (show xs (nI (i + 2)).toNatClampNeg = xs (i + 2) by rw [nI_clamp (by omega)]) ?_
  refine lv_aload_n hx hb dL_law_993 rfl (lv_at hl 0 rfl) ?_
  refine lv_iload_n hx hb dL_law_994 rfl (lv_at hl 3 rfl) ?_
  refine lv_iconst (v := 3) hx hb dL_law_995 (by decide) ?_
  refine lv_iadd hx hb dL_law_996 ?_
  refine sb_at (P := fun z => W _ _ _ _ _ _ _ _ _ _ _ _ _ _ _ (F0 _ _ _ (.int z :: _))) (nI_add i 3) ?_
  refine va_sld hx hb hX hbl hbA hS (vp_in_nI (show i + 3 < L by omega) (by omega)) dL_law_997 ?_
  refine sb_at (P := fun z => W _ _ _ _ _ _ _ _ _ _ _ _ _ _ _ (F0 _ _ _ (.int z :: _))) (show xs (nI (i + 3)).toNatClampNeg = xs (i + 3) by rw [nI_clamp (by omega)]) ?_
  obtain ⟨hI2, t0, t1, t2, t3, at0, at1, at2, at3, ht0, ht1, ht2, ht3⟩ := id hG2
  obtain ⟨_, _, _, _, _, _, _, _, _, _, _, _, _, _, _, _, _, _, _, cc2, _, _, _, _, _, _, _, _, _⟩ := invM_0 hI2
  refine xcVi E ⟨hD2, hA2⟩ (⟨hP2, hS⟩ : Hp g ad2 20 S2 (fun q : Nat => s.heap.size ≤ q) s.heap H locs) hml hl.1 0 (gX12_way_0 l g ad2 hD2 S2 hI2 (xs (i + 1)) (xs (i + 2)) (xs (i + 3)) (by omega) (by omega) (by omega) (by omega) (by omega) ht0) mX12_way q1946 (by decide) cc2 rfl rfl ⟨(Nat.le_of_ble_eq_true rfl), (Nat.le_of_ble_eq_true rfl)⟩ ⟨(Nat.le_of_ble_eq_true rfl), (Nat.le_of_ble_eq_true rfl)⟩ (Nat.le_of_ble_eq_true rfl) rfl dL_law_998 (fun r2 S4 H locs hp2 hQ2 hk2 => ?_)
  obtain ⟨hI4, o2, bb2⟩ := hp2
  have hG4 : GM g ad2 S4 := ⟨hI4, (by rw [o2 6 (by decide), o2 7 (by decide)]; exact t0), (by rw [o2 6 (by decide), o2 7 (by decide)]; exact t1), (by rw [o2 6 (by decide), o2 7 (by decide)]; exact t2), (by rw [o2 6 (by decide), o2 7 (by decide)]; exact t3), (at_tr at0 (o2 7 (by decide)) (o2 12 (by decide))), (at_tr at1 (o2 7 (by decide)) (o2 12 (by decide))), (at_tr at2 (o2 7 (by decide)) (o2 12 (by decide))), (at_tr at3 (o2 7 (by decide)) (o2 12 (by decide))), (ht_tr ht0 (o2 7 (by decide)) (o2 9 (by decide))), (ht_tr ht1 (o2 7 (by decide)) (o2 9 (by decide))), (ht_tr ht2 (o2 7 (by decide)) (o2 9 (by decide))), (ht_tr ht3 (o2 7 (by decide)) (o2 9 (by decide)))⟩
  have hS := hQ2.2
  have hP4 : PW g ad2 20 S4 H := hQ2.1
  have hP3 : PW g ad1 122 S3 H := pw_kept hP3 hk2 (fun i j hi hj e => hne j i hj hi e.symm)
  have hR4 : RR S3 S4 := rr_eq hR (o1 93 (by decide)) (o1 117 (by decide)) (o1 118 (by decide)) (o2 13 (by decide)) (o2 1 (by decide)) (o2 2 (by decide))
  refine lv_pop hx hb dL_law_1001 rfl ?_
  refine lv_goto (tgt := 2159) hx hb dL_law_1002 (by decide) ?_
  exact K S3 S4 H locs ls hG3 hG4 hR4 hP3 hP4 hS hl
set_option maxHeartbeats 4000000 in
set_option maxRecDepth 100000 in
theorem law_case_25 {p : Program} {l : Launch} {e : Env} {s : State} {m : MethodId} {below : List Frame} {meth : Method} {c : Code} {b L : Nat} {xs : Nat → Int32} (C0 : lw_At p s m meth c b L xs) {g : GG} {tt : TT} {ad1 ad2 : Nat → Nat} (hK : KK g s) (hT : TW tt (fun q : Nat => s.heap.size ≤ q) s s.heap) (hD1 : Dj ad1 122) (hD2 : Dj ad2 20) (hA1 : ∀ i, i < 122 → (fun q : Nat => s.heap.size ≤ q) (ad1 i)) (hA2 : ∀ i, i < 20 → (fun q : Nat => s.heap.size ≤ q) (ad2 i)) (hne : ∀ i j, i < 122 → j < 20 → ad1 i ≠ ad2 j) {i : Nat} (hi : i + 6 ≤ L) (hL : L ≤ 3072) {S1 S2 : SS} (hG1 : GX g ad1 S1) (hG2 : GM g ad2 S2) (hR : RR S1 S2) {H : Heap} {locs : List Loc} (hP1 : PW g ad1 122 S1 H) (hP2 : PW g ad2 20 S2 H) (hS : va_S (fun q : Nat => s.heap.size ≤ q) s.heap H locs) {ls : Array Slot} (hl : lv_has ls 4 [(0, .ref b), (1, .ref (ad1 0)), (2, .ref (ad2 0)), (3, .int (nI i))]) (K : (∀ (S1 S2 : SS) (H : Heap) (locs : List Loc) (ls : Array Slot), GX g ad1 S1 → GM g ad2 S2 → RR S1 S2 → PW g ad1 122 S1 H → PW g ad2 20 S2 H → va_S (fun q : Nat => s.heap.size ≤ q) s.heap H locs → lv_has ls 4 [(0, .ref b), (1, .ref (ad1 0)), (2, .ref (ad2 0)), (3, .int (nI i))] → W p l e room_1 s m #[Value.ref b] below meth c H locs 142 12631 (lw_Z below #[Value.ref b] s) (F0 m 2159 ls []))) : W p l e room_1 s m #[Value.ref b] below meth c H locs 142 12631 (lw_Z below #[Value.ref b] s) (F0 m 1005 ls []) := by
  obtain ⟨hx, hb, hr, hml, hown, hts, hX, hbl, hlocks, hgv⟩ := id C0
  have hbA : ¬ (fun q : Nat => s.heap.size ≤ q) b := Nat.not_le.mpr hbl
  have E : Ev p s m #[Value.ref b] c cL_law "EbbWreckLaw" g := ⟨hx, hb, hown, fun w h => hts w (List.mem_filter.mp h).1, hK⟩
  refine lv_aload_n hx hb dL_law_1005 rfl (lv_at hl 1 rfl) ?_
  refine lv_aload_n hx hb dL_law_1006 rfl (lv_at hl 0 rfl) ?_
  refine lv_iload_n hx hb dL_law_1007 rfl (lv_at hl 3 rfl) ?_
  refine lv_iconst (v := 1) hx hb dL_law_1008 (by decide) ?_
  refine lv_iadd hx hb dL_law_1009 ?_
  refine sb_at (P := fun z => W _ _ _ _ _ _ _ _ _ _ _ _ _ _ _ (F0 _ _ _ (.int z :: _))) (nI_add i 1) ?_
  refine va_sld hx hb hX hbl hbA hS (vp_in_nI (show i + 1 < L by omega) (by omega)) dL_law_1010 ?_
  refine sb_at (P := fun z => W _ _ _ _ _ _ _ _ _ _ _ _ _ _ _ (F0 _ _ _ (.int z :: _))) (show xs (nI (i + 1)).toNatClampNeg = xs (i + 1) by rw [nI_clamp (by omega)]) ?_
  refine lv_aload_n hx hb dL_law_1011 rfl (lv_at hl 0 rfl) ?_
  refine lv_iload_n hx hb dL_law_1012 rfl (lv_at hl 3 rfl) ?_
  refine lv_iconst (v := 2) hx hb dL_law_1013 (by decide) ?_
  refine lv_iadd hx hb dL_law_1014 ?_
  refine sb_at (P := fun z => W _ _ _ _ _ _ _ _ _ _ _ _ _ _ _ (F0 _ _ _ (.int z :: _))) (nI_add i 2) ?_
  refine va_sld hx hb hX hbl hbA hS (vp_in_nI (show i + 2 < L by omega) (by omega)) dL_law_1015 ?_
  refine sb_at (P := fun z => W _ _ _ _ _ _ _ _ _ _ _ _ _ _ _ (F0 _ _ _ (.int z :: _))) (show xs (nI (i + 2)).toNatClampNeg = xs (i + 2) by rw [nI_clamp (by omega)]) ?_
  obtain ⟨hI1, r2, r39, r57, r75, ar2, ar39, ar57, ar75⟩ := id hG1
  obtain ⟨_, _, _, cc1, _⟩ := invX_0 hI1
  refine xcVi E ⟨hD1, hA1⟩ (⟨hP1, hS⟩ : Hp g ad1 122 S1 (fun q : Nat => s.heap.size ≤ q) s.heap H locs) hml hl.1 0 (gX11_soonest_0 l g ad1 hD1 S1 hI1 (xs (i + 1)) (xs (i + 2)) (by omega) (by omega) (by omega)) mX11_soonest q1089 (by decide) cc1 rfl rfl ⟨(Nat.le_of_ble_eq_true rfl), (Nat.le_of_ble_eq_true rfl)⟩ ⟨(Nat.le_of_ble_eq_true rfl), (Nat.le_of_ble_eq_true rfl)⟩ (Nat.le_of_ble_eq_true rfl) rfl dL_law_1016 (fun r1 S3 H locs hp1 hQ1 hk1 => ?_)
  obtain ⟨rfl, bb1⟩ := hp1
  have hG3 := hG1
  have hP3 : PW g ad1 122 S1 H := hQ1.1
  have hS := hQ1.2
  have hP2 : PW g ad2 20 S2 H := pw_kept hP2 hk1 hne
  refine lv_pop hx hb dL_law_1019 rfl ?_
  refine lv_aload_n hx hb dL_law_1020 rfl (lv_at hl 2 rfl) ?_
  refine lv_aload_n hx hb dL_law_1021 rfl (lv_at hl 0 rfl) ?_
  refine lv_iload_n hx hb dL_law_1022 rfl (lv_at hl 3 rfl) ?_
  refine lv_iconst (v := 1) hx hb dL_law_1023 (by decide) ?_
  refine lv_iadd hx hb dL_law_1024 ?_
  refine sb_at (P := fun z => W _ _ _ _ _ _ _ _ _ _ _ _ _ _ _ (F0 _ _ _ (.int z :: _))) (nI_add i 1) ?_
  refine va_sld hx hb hX hbl hbA hS (vp_in_nI (show i + 1 < L by omega) (by omega)) dL_law_1025 ?_
  refine sb_at (P := fun z => W _ _ _ _ _ _ _ _ _ _ _ _ _ _ _ (F0 _ _ _ (.int z :: _))) (show xs (nI (i + 1)).toNatClampNeg = xs (i + 1) by rw [nI_clamp (by omega)]) ?_
  refine lv_aload_n hx hb dL_law_1026 rfl (lv_at hl 0 rfl) ?_
  refine lv_iload_n hx hb dL_law_1027 rfl (lv_at hl 3 rfl) ?_
  refine lv_iconst (v := 2) hx hb dL_law_1028 (by decide) ?_
  refine lv_iadd hx hb dL_law_1029 ?_
  refine sb_at (P := fun z => W _ _ _ _ _ _ _ _ _ _ _ _ _ _ _ (F0 _ _ _ (.int z :: _))) (nI_add i 2) ?_
  refine va_sld hx hb hX hbl hbA hS (vp_in_nI (show i + 2 < L by omega) (by omega)) dL_law_1030 ?_
  refine sb_at (P := fun z => W _ _ _ _ _ _ _ _ _ _ _ _ _ _ _ (F0 _ _ _ (.int z :: _))) (show xs (nI (i + 2)).toNatClampNeg = xs (i + 2) by rw [nI_clamp (by omega)]) ?_
  obtain ⟨hI2, t0, t1, t2, t3, at0, at1, at2, at3, ht0, ht1, ht2, ht3⟩ := id hG2
  obtain ⟨_, _, _, _, _, _, _, _, _, _, _, _, _, _, _, _, _, _, _, cc2, _, _, _, _, _, _, _, _, _⟩ := invM_0 hI2
  refine xcVi E ⟨hD2, hA2⟩ (⟨hP2, hS⟩ : Hp g ad2 20 S2 (fun q : Nat => s.heap.size ≤ q) s.heap H locs) hml hl.1 0 (gX12_soonest_0 l g ad2 hD2 S2 hI2 (xs (i + 1)) (xs (i + 2)) (by omega) (by omega) (by omega) (by omega) (by omega)) mX12_soonest q1950 (by decide) cc2 rfl rfl ⟨(Nat.le_of_ble_eq_true rfl), (Nat.le_of_ble_eq_true rfl)⟩ ⟨(Nat.le_of_ble_eq_true rfl), (Nat.le_of_ble_eq_true rfl)⟩ (Nat.le_of_ble_eq_true rfl) rfl dL_law_1031 (fun r2 S4 H locs hp2 hQ2 hk2 => ?_)
  obtain ⟨hI4, o2, bb2⟩ := hp2
  have hG4 : GM g ad2 S4 := ⟨hI4, (by rw [o2 6 (by decide), o2 7 (by decide)]; exact t0), (by rw [o2 6 (by decide), o2 7 (by decide)]; exact t1), (by rw [o2 6 (by decide), o2 7 (by decide)]; exact t2), (by rw [o2 6 (by decide), o2 7 (by decide)]; exact t3), (at_tr at0 (o2 7 (by decide)) (o2 12 (by decide))), (at_tr at1 (o2 7 (by decide)) (o2 12 (by decide))), (at_tr at2 (o2 7 (by decide)) (o2 12 (by decide))), (at_tr at3 (o2 7 (by decide)) (o2 12 (by decide))), (ht_tr ht0 (o2 7 (by decide)) (o2 9 (by decide))), (ht_tr ht1 (o2 7 (by decide)) (o2 9 (by decide))), (ht_tr ht2 (o2 7 (by decide)) (o2 9 (by decide))), (ht_tr ht3 (o2 7 (by decide)) (o2 9 (by decide)))⟩
  have hS := hQ2.2
  have hP4 : PW g ad2 20 S4 H := hQ2.1
  have hP3 : PW g ad1 122 S1 H := pw_kept hP3 hk2 (fun i j hi hj e => hne j i hj hi e.symm)
  have hR4 : RR S1 S4 := rr_eq hR rfl rfl rfl (o2 13 (by decide)) (o2 1 (by decide)) (o2 2 (by decide))
  refine lv_pop hx hb dL_law_1034 rfl ?_
  refine lv_goto (tgt := 2159) hx hb dL_law_1035 (by decide) ?_
  exact K S1 S4 H locs ls hG3 hG4 hR4 hP3 hP4 hS hl
set_option maxHeartbeats 4000000 in
set_option maxRecDepth 100000 in
theorem law_case_26 {p : Program} {l : Launch} {e : Env} {s : State} {m : MethodId} {below : List Frame} {meth : Method} {c : Code} {b L : Nat} {xs : Nat → Int32} (C0 : lw_At p s m meth c b L xs) {g : GG} {tt : TT} {ad1 ad2 : Nat → Nat} (hK : KK g s) (hT : TW tt (fun q : Nat => s.heap.size ≤ q) s s.heap) (hD1 : Dj ad1 122) (hD2 : Dj ad2 20) (hA1 : ∀ i, i < 122 → (fun q : Nat => s.heap.size ≤ q) (ad1 i)) (hA2 : ∀ i, i < 20 → (fun q : Nat => s.heap.size ≤ q) (ad2 i)) (hne : ∀ i j, i < 122 → j < 20 → ad1 i ≠ ad2 j) {i : Nat} (hi : i + 6 ≤ L) (hL : L ≤ 3072) {S1 S2 : SS} (hG1 : GX g ad1 S1) (hG2 : GM g ad2 S2) (hR : RR S1 S2) {H : Heap} {locs : List Loc} (hP1 : PW g ad1 122 S1 H) (hP2 : PW g ad2 20 S2 H) (hS : va_S (fun q : Nat => s.heap.size ≤ q) s.heap H locs) {ls : Array Slot} (hl : lv_has ls 4 [(0, .ref b), (1, .ref (ad1 0)), (2, .ref (ad2 0)), (3, .int (nI i))]) (K : (∀ (S1 S2 : SS) (H : Heap) (locs : List Loc) (ls : Array Slot), GX g ad1 S1 → GM g ad2 S2 → RR S1 S2 → PW g ad1 122 S1 H → PW g ad2 20 S2 H → va_S (fun q : Nat => s.heap.size ≤ q) s.heap H locs → lv_has ls 4 [(0, .ref b), (1, .ref (ad1 0)), (2, .ref (ad2 0)), (3, .int (nI i))] → W p l e room_1 s m #[Value.ref b] below meth c H locs 142 12631 (lw_Z below #[Value.ref b] s) (F0 m 2159 ls []))) : W p l e room_1 s m #[Value.ref b] below meth c H locs 142 12631 (lw_Z below #[Value.ref b] s) (F0 m 1038 ls []) := by
  obtain ⟨hx, hb, hr, hml, hown, hts, hX, hbl, hlocks, hgv⟩ := id C0
  have hbA : ¬ (fun q : Nat => s.heap.size ≤ q) b := Nat.not_le.mpr hbl
  have E : Ev p s m #[Value.ref b] c cL_law "EbbWreckLaw" g := ⟨hx, hb, hown, fun w h => hts w (List.mem_filter.mp h).1, hK⟩
  refine lv_aload_n hx hb dL_law_1038 rfl (lv_at hl 1 rfl) ?_
  refine lv_aload_n hx hb dL_law_1039 rfl (lv_at hl 0 rfl) ?_
  refine lv_iload_n hx hb dL_law_1040 rfl (lv_at hl 3 rfl) ?_
  refine lv_iconst (v := 1) hx hb dL_law_1041 (by decide) ?_
  refine lv_iadd hx hb dL_law_1042 ?_
  refine sb_at (P := fun z => W _ _ _ _ _ _ _ _ _ _ _ _ _ _ _ (F0 _ _ _ (.int z :: _))) (nI_add i 1) ?_
  refine va_sld hx hb hX hbl hbA hS (vp_in_nI (show i + 1 < L by omega) (by omega)) dL_law_1043 ?_
  refine sb_at (P := fun z => W _ _ _ _ _ _ _ _ _ _ _ _ _ _ _ (F0 _ _ _ (.int z :: _))) (show xs (nI (i + 1)).toNatClampNeg = xs (i + 1) by rw [nI_clamp (by omega)]) ?_
  refine lv_aload_n hx hb dL_law_1044 rfl (lv_at hl 0 rfl) ?_
  refine lv_iload_n hx hb dL_law_1045 rfl (lv_at hl 3 rfl) ?_
  refine lv_iconst (v := 2) hx hb dL_law_1046 (by decide) ?_
  refine lv_iadd hx hb dL_law_1047 ?_
  refine sb_at (P := fun z => W _ _ _ _ _ _ _ _ _ _ _ _ _ _ _ (F0 _ _ _ (.int z :: _))) (nI_add i 2) ?_
  refine va_sld hx hb hX hbl hbA hS (vp_in_nI (show i + 2 < L by omega) (by omega)) dL_law_1048 ?_
  refine sb_at (P := fun z => W _ _ _ _ _ _ _ _ _ _ _ _ _ _ _ (F0 _ _ _ (.int z :: _))) (show xs (nI (i + 2)).toNatClampNeg = xs (i + 2) by rw [nI_clamp (by omega)]) ?_
  obtain ⟨hI1, r2, r39, r57, r75, ar2, ar39, ar57, ar75⟩ := id hG1
  obtain ⟨_, _, _, cc1, _⟩ := invX_0 hI1
  refine xcVi E ⟨hD1, hA1⟩ (⟨hP1, hS⟩ : Hp g ad1 122 S1 (fun q : Nat => s.heap.size ≤ q) s.heap H locs) hml hl.1 0 (gX11_ward_0 l g ad1 hD1 S1 hI1 (xs (i + 1)) (xs (i + 2)) (by omega) (by omega) (by omega)) mX11_ward q1105 (by decide) cc1 rfl rfl ⟨(Nat.le_of_ble_eq_true rfl), (Nat.le_of_ble_eq_true rfl)⟩ ⟨(Nat.le_of_ble_eq_true rfl), (Nat.le_of_ble_eq_true rfl)⟩ (Nat.le_of_ble_eq_true rfl) rfl dL_law_1049 (fun r1 S3 H locs hp1 hQ1 hk1 => ?_)
  obtain ⟨hI3, o1⟩ := hp1
  have hG3 : GX g ad1 S3 := ⟨hI3, (by rw [o1 2 (by decide)]; exact r2), (by rw [o1 39 (by decide)]; exact r39), (by rw [o1 57 (by decide)]; exact r57), (by rw [o1 75 (by decide)]; exact r75), (ar_tr ar2 (o1 16 (by decide)) (o1 17 (by decide)) (o1 18 (by decide)) (o1 19 (by decide))), (ar_tr ar39 (o1 53 (by decide)) (o1 54 (by decide)) (o1 55 (by decide)) (o1 56 (by decide))), (ar_tr ar57 (o1 71 (by decide)) (o1 72 (by decide)) (o1 73 (by decide)) (o1 74 (by decide))), (ar_tr ar75 (o1 89 (by decide)) (o1 90 (by decide)) (o1 91 (by decide)) (o1 92 (by decide)))⟩
  have hP3 : PW g ad1 122 S3 H := hQ1.1
  have hS := hQ1.2
  have hP2 : PW g ad2 20 S2 H := pw_kept hP2 hk1 hne
  refine lv_pop hx hb dL_law_1052 rfl ?_
  refine lv_aload_n hx hb dL_law_1053 rfl (lv_at hl 2 rfl) ?_
  refine lv_aload_n hx hb dL_law_1054 rfl (lv_at hl 0 rfl) ?_
  refine lv_iload_n hx hb dL_law_1055 rfl (lv_at hl 3 rfl) ?_
  refine lv_iconst (v := 1) hx hb dL_law_1056 (by decide) ?_
  refine lv_iadd hx hb dL_law_1057 ?_
  refine sb_at (P := fun z => W _ _ _ _ _ _ _ _ _ _ _ _ _ _ _ (F0 _ _ _ (.int z :: _))) (nI_add i 1) ?_
  refine va_sld hx hb hX hbl hbA hS (vp_in_nI (show i + 1 < L by omega) (by omega)) dL_law_1058 ?_
  refine sb_at (P := fun z => W _ _ _ _ _ _ _ _ _ _ _ _ _ _ _ (F0 _ _ _ (.int z :: _))) (show xs (nI (i + 1)).toNatClampNeg = xs (i + 1) by rw [nI_clamp (by omega)]) ?_
  refine lv_aload_n hx hb dL_law_1059 rfl (lv_at hl 0 rfl) ?_
  refine lv_iload_n hx hb dL_law_1060 rfl (lv_at hl 3 rfl) ?_
  refine lv_iconst (v := 2) hx hb dL_law_1061 (by decide) ?_
  refine lv_iadd hx hb dL_law_1062 ?_
  refine sb_at (P := fun z => W _ _ _ _ _ _ _ _ _ _ _ _ _ _ _ (F0 _ _ _ (.int z :: _))) (nI_add i 2) ?_
  refine va_sld hx hb hX hbl hbA hS (vp_in_nI (show i + 2 < L by omega) (by omega)) dL_law_1063 ?_
  refine sb_at (P := fun z => W _ _ _ _ _ _ _ _ _ _ _ _ _ _ _ (F0 _ _ _ (.int z :: _))) (show xs (nI (i + 2)).toNatClampNeg = xs (i + 2) by rw [nI_clamp (by omega)]) ?_
  obtain ⟨hI2, t0, t1, t2, t3, at0, at1, at2, at3, ht0, ht1, ht2, ht3⟩ := id hG2
  obtain ⟨_, _, _, _, _, _, _, _, _, _, _, _, _, _, _, _, _, _, _, cc2, _, _, _, _, _, _, _, _, _⟩ := invM_0 hI2
  refine xcVi E ⟨hD2, hA2⟩ (⟨hP2, hS⟩ : Hp g ad2 20 S2 (fun q : Nat => s.heap.size ≤ q) s.heap H locs) hml hl.1 0 (gX12_ward_0 l g ad2 hD2 S2 hI2 (xs (i + 1)) (xs (i + 2)) (by omega) (by omega) (by omega) (by omega) (by omega)) mX12_ward q1954 (by decide) cc2 rfl rfl ⟨(Nat.le_of_ble_eq_true rfl), (Nat.le_of_ble_eq_true rfl)⟩ ⟨(Nat.le_of_ble_eq_true rfl), (Nat.le_of_ble_eq_true rfl)⟩ (Nat.le_of_ble_eq_true rfl) rfl dL_law_1064 (fun r2 S4 H locs hp2 hQ2 hk2 => ?_)
  obtain ⟨hI4, o2, bb2⟩ := hp2
  have hG4 : GM g ad2 S4 := ⟨hI4, (by rw [o2 6 (by decide), o2 7 (by decide)]; exact t0), (by rw [o2 6 (by decide), o2 7 (by decide)]; exact t1), (by rw [o2 6 (by decide), o2 7 (by decide)]; exact t2), (by rw [o2 6 (by decide), o2 7 (by decide)]; exact t3), (at_tr at0 (o2 7 (by decide)) (o2 12 (by decide))), (at_tr at1 (o2 7 (by decide)) (o2 12 (by decide))), (at_tr at2 (o2 7 (by decide)) (o2 12 (by decide))), (at_tr at3 (o2 7 (by decide)) (o2 12 (by decide))), (ht_tr ht0 (o2 7 (by decide)) (o2 9 (by decide))), (ht_tr ht1 (o2 7 (by decide)) (o2 9 (by decide))), (ht_tr ht2 (o2 7 (by decide)) (o2 9 (by decide))), (ht_tr ht3 (o2 7 (by decide)) (o2 9 (by decide)))⟩
  have hS := hQ2.2
  have hP4 : PW g ad2 20 S4 H := hQ2.1
  have hP3 : PW g ad1 122 S3 H := pw_kept hP3 hk2 (fun i j hi hj e => hne j i hj hi e.symm)
  have hR4 : RR S3 S4 := rr_eq hR (o1 93 (by decide)) (o1 117 (by decide)) (o1 118 (by decide)) (o2 13 (by decide)) (o2 1 (by decide)) (o2 2 (by decide))
  refine lv_pop hx hb dL_law_1067 rfl ?_
  refine lv_goto (tgt := 2159) hx hb dL_law_1068 (by decide) ?_
  exact K S3 S4 H locs ls hG3 hG4 hR4 hP3 hP4 hS hl
set_option maxHeartbeats 4000000 in
set_option maxRecDepth 100000 in
theorem law_case_27 {p : Program} {l : Launch} {e : Env} {s : State} {m : MethodId} {below : List Frame} {meth : Method} {c : Code} {b L : Nat} {xs : Nat → Int32} (C0 : lw_At p s m meth c b L xs) {g : GG} {tt : TT} {ad1 ad2 : Nat → Nat} (hK : KK g s) (hT : TW tt (fun q : Nat => s.heap.size ≤ q) s s.heap) (hD1 : Dj ad1 122) (hD2 : Dj ad2 20) (hA1 : ∀ i, i < 122 → (fun q : Nat => s.heap.size ≤ q) (ad1 i)) (hA2 : ∀ i, i < 20 → (fun q : Nat => s.heap.size ≤ q) (ad2 i)) (hne : ∀ i j, i < 122 → j < 20 → ad1 i ≠ ad2 j) {i : Nat} (hi : i + 6 ≤ L) (hL : L ≤ 3072) {S1 S2 : SS} (hG1 : GX g ad1 S1) (hG2 : GM g ad2 S2) (hR : RR S1 S2) {H : Heap} {locs : List Loc} (hP1 : PW g ad1 122 S1 H) (hP2 : PW g ad2 20 S2 H) (hS : va_S (fun q : Nat => s.heap.size ≤ q) s.heap H locs) {ls : Array Slot} (hl : lv_has ls 4 [(0, .ref b), (1, .ref (ad1 0)), (2, .ref (ad2 0)), (3, .int (nI i))]) (K : (∀ (S1 S2 : SS) (H : Heap) (locs : List Loc) (ls : Array Slot), GX g ad1 S1 → GM g ad2 S2 → RR S1 S2 → PW g ad1 122 S1 H → PW g ad2 20 S2 H → va_S (fun q : Nat => s.heap.size ≤ q) s.heap H locs → lv_has ls 4 [(0, .ref b), (1, .ref (ad1 0)), (2, .ref (ad2 0)), (3, .int (nI i))] → W p l e room_1 s m #[Value.ref b] below meth c H locs 142 12631 (lw_Z below #[Value.ref b] s) (F0 m 2159 ls []))) : W p l e room_1 s m #[Value.ref b] below meth c H locs 142 12631 (lw_Z below #[Value.ref b] s) (F0 m 1071 ls []) := by
  obtain ⟨hx, hb, hr, hml, hown, hts, hX, hbl, hlocks, hgv⟩ := id C0
  have hbA : ¬ (fun q : Nat => s.heap.size ≤ q) b := Nat.not_le.mpr hbl
  have E : Ev p s m #[Value.ref b] c cL_law "EbbWreckLaw" g := ⟨hx, hb, hown, fun w h => hts w (List.mem_filter.mp h).1, hK⟩
  refine lv_aload_n hx hb dL_law_1071 rfl (lv_at hl 1 rfl) ?_
  refine lv_aload_n hx hb dL_law_1072 rfl (lv_at hl 0 rfl) ?_
  refine lv_iload_n hx hb dL_law_1073 rfl (lv_at hl 3 rfl) ?_
  refine lv_iconst (v := 1) hx hb dL_law_1074 (by decide) ?_
  refine lv_iadd hx hb dL_law_1075 ?_
  refine sb_at (P := fun z => W _ _ _ _ _ _ _ _ _ _ _ _ _ _ _ (F0 _ _ _ (.int z :: _))) (nI_add i 1) ?_
  refine va_sld hx hb hX hbl hbA hS (vp_in_nI (show i + 1 < L by omega) (by omega)) dL_law_1076 ?_
  refine sb_at (P := fun z => W _ _ _ _ _ _ _ _ _ _ _ _ _ _ _ (F0 _ _ _ (.int z :: _))) (show xs (nI (i + 1)).toNatClampNeg = xs (i + 1) by rw [nI_clamp (by omega)]) ?_
  obtain ⟨hI1, r2, r39, r57, r75, ar2, ar39, ar57, ar75⟩ := id hG1
  obtain ⟨_, _, _, cc1, _⟩ := invX_0 hI1
  refine xcVi E ⟨hD1, hA1⟩ (⟨hP1, hS⟩ : Hp g ad1 122 S1 (fun q : Nat => s.heap.size ≤ q) s.heap H locs) hml hl.1 0 (gX11_all_0 l g ad1 hD1 S1 hI1 (xs (i + 1)) (by omega) (by omega) (by omega)) mX11_all q1109 (by decide) cc1 rfl rfl ⟨(Nat.le_of_ble_eq_true rfl), (Nat.le_of_ble_eq_true rfl)⟩ ⟨(Nat.le_of_ble_eq_true rfl), (Nat.le_of_ble_eq_true rfl)⟩ (Nat.le_of_ble_eq_true rfl) rfl dL_law_1077 (fun r1 S3 H locs hp1 hQ1 hk1 => ?_)
  obtain ⟨hI3, o1⟩ := hp1
  have hG3 : GX g ad1 S3 := ⟨hI3, (by rw [o1 2 (by decide)]; exact r2), (by rw [o1 39 (by decide)]; exact r39), (by rw [o1 57 (by decide)]; exact r57), (by rw [o1 75 (by decide)]; exact r75), (ar_tr ar2 (o1 16 (by decide)) (o1 17 (by decide)) (o1 18 (by decide)) (o1 19 (by decide))), (ar_tr ar39 (o1 53 (by decide)) (o1 54 (by decide)) (o1 55 (by decide)) (o1 56 (by decide))), (ar_tr ar57 (o1 71 (by decide)) (o1 72 (by decide)) (o1 73 (by decide)) (o1 74 (by decide))), (ar_tr ar75 (o1 89 (by decide)) (o1 90 (by decide)) (o1 91 (by decide)) (o1 92 (by decide)))⟩
  have hP3 : PW g ad1 122 S3 H := hQ1.1
  have hS := hQ1.2
  have hP2 : PW g ad2 20 S2 H := pw_kept hP2 hk1 hne
  refine lv_pop hx hb dL_law_1080 rfl ?_
  refine lv_aload_n hx hb dL_law_1081 rfl (lv_at hl 2 rfl) ?_
  refine lv_aload_n hx hb dL_law_1082 rfl (lv_at hl 0 rfl) ?_
  refine lv_iload_n hx hb dL_law_1083 rfl (lv_at hl 3 rfl) ?_
  refine lv_iconst (v := 1) hx hb dL_law_1084 (by decide) ?_
  refine lv_iadd hx hb dL_law_1085 ?_
  refine sb_at (P := fun z => W _ _ _ _ _ _ _ _ _ _ _ _ _ _ _ (F0 _ _ _ (.int z :: _))) (nI_add i 1) ?_
  refine va_sld hx hb hX hbl hbA hS (vp_in_nI (show i + 1 < L by omega) (by omega)) dL_law_1086 ?_
  refine sb_at (P := fun z => W _ _ _ _ _ _ _ _ _ _ _ _ _ _ _ (F0 _ _ _ (.int z :: _))) (show xs (nI (i + 1)).toNatClampNeg = xs (i + 1) by rw [nI_clamp (by omega)]) ?_
  obtain ⟨hI2, t0, t1, t2, t3, at0, at1, at2, at3, ht0, ht1, ht2, ht3⟩ := id hG2
  obtain ⟨_, _, _, _, _, _, _, _, _, _, _, _, _, _, _, _, _, _, _, cc2, _, _, _, _, _, _, _, _, _⟩ := invM_0 hI2
  refine xcVi E ⟨hD2, hA2⟩ (⟨hP2, hS⟩ : Hp g ad2 20 S2 (fun q : Nat => s.heap.size ≤ q) s.heap H locs) hml hl.1 0 (gX12_all_0 l g ad2 hD2 S2 hI2 (xs (i + 1)) (by omega) (by omega) (by omega) (by omega) (by omega)) mX12_all q1962 (by decide) cc2 rfl rfl ⟨(Nat.le_of_ble_eq_true rfl), (Nat.le_of_ble_eq_true rfl)⟩ ⟨(Nat.le_of_ble_eq_true rfl), (Nat.le_of_ble_eq_true rfl)⟩ (Nat.le_of_ble_eq_true rfl) rfl dL_law_1087 (fun r2 S4 H locs hp2 hQ2 hk2 => ?_)
  obtain ⟨hI4, o2⟩ := hp2
  have hG4 : GM g ad2 S4 := ⟨hI4, (by rw [o2 6 (by decide), o2 7 (by decide)]; exact t0), (by rw [o2 6 (by decide), o2 7 (by decide)]; exact t1), (by rw [o2 6 (by decide), o2 7 (by decide)]; exact t2), (by rw [o2 6 (by decide), o2 7 (by decide)]; exact t3), (at_tr at0 (o2 7 (by decide)) (o2 12 (by decide))), (at_tr at1 (o2 7 (by decide)) (o2 12 (by decide))), (at_tr at2 (o2 7 (by decide)) (o2 12 (by decide))), (at_tr at3 (o2 7 (by decide)) (o2 12 (by decide))), (ht_tr ht0 (o2 7 (by decide)) (o2 9 (by decide))), (ht_tr ht1 (o2 7 (by decide)) (o2 9 (by decide))), (ht_tr ht2 (o2 7 (by decide)) (o2 9 (by decide))), (ht_tr ht3 (o2 7 (by decide)) (o2 9 (by decide)))⟩
  have hS := hQ2.2
  have hP4 : PW g ad2 20 S4 H := hQ2.1
  have hP3 : PW g ad1 122 S3 H := pw_kept hP3 hk2 (fun i j hi hj e => hne j i hj hi e.symm)
  have hR4 : RR S3 S4 := rr_eq hR (o1 93 (by decide)) (o1 117 (by decide)) (o1 118 (by decide)) (o2 13 (by decide)) (o2 1 (by decide)) (o2 2 (by decide))
  refine lv_pop hx hb dL_law_1090 rfl ?_
  refine lv_goto (tgt := 2159) hx hb dL_law_1091 (by decide) ?_
  exact K S3 S4 H locs ls hG3 hG4 hR4 hP3 hP4 hS hl
set_option maxHeartbeats 4000000 in
set_option maxRecDepth 100000 in
theorem law_case_28 {p : Program} {l : Launch} {e : Env} {s : State} {m : MethodId} {below : List Frame} {meth : Method} {c : Code} {b L : Nat} {xs : Nat → Int32} (C0 : lw_At p s m meth c b L xs) {g : GG} {tt : TT} {ad1 ad2 : Nat → Nat} (hK : KK g s) (hT : TW tt (fun q : Nat => s.heap.size ≤ q) s s.heap) (hD1 : Dj ad1 122) (hD2 : Dj ad2 20) (hA1 : ∀ i, i < 122 → (fun q : Nat => s.heap.size ≤ q) (ad1 i)) (hA2 : ∀ i, i < 20 → (fun q : Nat => s.heap.size ≤ q) (ad2 i)) (hne : ∀ i j, i < 122 → j < 20 → ad1 i ≠ ad2 j) {i : Nat} (hi : i + 6 ≤ L) (hL : L ≤ 3072) {S1 S2 : SS} (hG1 : GX g ad1 S1) (hG2 : GM g ad2 S2) (hR : RR S1 S2) {H : Heap} {locs : List Loc} (hP1 : PW g ad1 122 S1 H) (hP2 : PW g ad2 20 S2 H) (hS : va_S (fun q : Nat => s.heap.size ≤ q) s.heap H locs) {ls : Array Slot} (hl : lv_has ls 4 [(0, .ref b), (1, .ref (ad1 0)), (2, .ref (ad2 0)), (3, .int (nI i))]) (K : (∀ (S1 S2 : SS) (H : Heap) (locs : List Loc) (ls : Array Slot), GX g ad1 S1 → GM g ad2 S2 → RR S1 S2 → PW g ad1 122 S1 H → PW g ad2 20 S2 H → va_S (fun q : Nat => s.heap.size ≤ q) s.heap H locs → lv_has ls 4 [(0, .ref b), (1, .ref (ad1 0)), (2, .ref (ad2 0)), (3, .int (nI i))] → W p l e room_1 s m #[Value.ref b] below meth c H locs 142 12631 (lw_Z below #[Value.ref b] s) (F0 m 2159 ls []))) : W p l e room_1 s m #[Value.ref b] below meth c H locs 142 12631 (lw_Z below #[Value.ref b] s) (F0 m 1094 ls []) := by
  obtain ⟨hx, hb, hr, hml, hown, hts, hX, hbl, hlocks, hgv⟩ := id C0
  have hbA : ¬ (fun q : Nat => s.heap.size ≤ q) b := Nat.not_le.mpr hbl
  have E : Ev p s m #[Value.ref b] c cL_law "EbbWreckLaw" g := ⟨hx, hb, hown, fun w h => hts w (List.mem_filter.mp h).1, hK⟩
  refine lv_aload_n hx hb dL_law_1094 rfl (lv_at hl 1 rfl) ?_
  obtain ⟨hI1, r2, r39, r57, r75, ar2, ar39, ar57, ar75⟩ := id hG1
  obtain ⟨_, _, _, cc1, _⟩ := invX_0 hI1
  refine xcVi E ⟨hD1, hA1⟩ (⟨hP1, hS⟩ : Hp g ad1 122 S1 (fun q : Nat => s.heap.size ≤ q) s.heap H locs) hml hl.1 0 (gX11_richest_0 l g ad1 hD1 S1 hI1 (by omega) (by omega) (by omega)) mX11_richest q980 (by decide) cc1 rfl rfl ⟨(Nat.le_of_ble_eq_true rfl), (Nat.le_of_ble_eq_true rfl)⟩ ⟨(Nat.le_of_ble_eq_true rfl), (Nat.le_of_ble_eq_true rfl)⟩ (Nat.le_of_ble_eq_true rfl) rfl dL_law_1095 (fun r1 S3 H locs hp1 hQ1 hk1 => ?_)
  obtain ⟨rfl, bb1⟩ := hp1
  have hG3 := hG1
  have hP3 : PW g ad1 122 S1 H := hQ1.1
  have hS := hQ1.2
  have hP2 : PW g ad2 20 S2 H := pw_kept hP2 hk1 hne
  refine lv_pop hx hb dL_law_1098 rfl ?_
  refine lv_aload_n hx hb dL_law_1099 rfl (lv_at hl 2 rfl) ?_
  obtain ⟨hI2, t0, t1, t2, t3, at0, at1, at2, at3, ht0, ht1, ht2, ht3⟩ := id hG2
  obtain ⟨_, _, _, _, _, _, _, _, _, _, _, _, _, _, _, _, _, _, _, cc2, _, _, _, _, _, _, _, _, _⟩ := invM_0 hI2
  refine xcVi E ⟨hD2, hA2⟩ (⟨hP2, hS⟩ : Hp g ad2 20 S2 (fun q : Nat => s.heap.size ≤ q) s.heap H locs) hml hl.1 0 (gX12_richest_0 l g ad2 hD2 S2 hI2 (by omega) (by omega) (by omega) (by omega) (by omega) at0) mX12_richest q1966 (by decide) cc2 rfl rfl ⟨(Nat.le_of_ble_eq_true rfl), (Nat.le_of_ble_eq_true rfl)⟩ ⟨(Nat.le_of_ble_eq_true rfl), (Nat.le_of_ble_eq_true rfl)⟩ (Nat.le_of_ble_eq_true rfl) rfl dL_law_1100 (fun r2 S4 H locs hp2 hQ2 hk2 => ?_)
  obtain ⟨hI4, o2, bb2⟩ := hp2
  have hG4 : GM g ad2 S4 := ⟨hI4, (by rw [o2 6 (by decide), o2 7 (by decide)]; exact t0), (by rw [o2 6 (by decide), o2 7 (by decide)]; exact t1), (by rw [o2 6 (by decide), o2 7 (by decide)]; exact t2), (by rw [o2 6 (by decide), o2 7 (by decide)]; exact t3), (at_tr at0 (o2 7 (by decide)) (o2 12 (by decide))), (at_tr at1 (o2 7 (by decide)) (o2 12 (by decide))), (at_tr at2 (o2 7 (by decide)) (o2 12 (by decide))), (at_tr at3 (o2 7 (by decide)) (o2 12 (by decide))), (ht_tr ht0 (o2 7 (by decide)) (o2 9 (by decide))), (ht_tr ht1 (o2 7 (by decide)) (o2 9 (by decide))), (ht_tr ht2 (o2 7 (by decide)) (o2 9 (by decide))), (ht_tr ht3 (o2 7 (by decide)) (o2 9 (by decide)))⟩
  have hS := hQ2.2
  have hP4 : PW g ad2 20 S4 H := hQ2.1
  have hP3 : PW g ad1 122 S1 H := pw_kept hP3 hk2 (fun i j hi hj e => hne j i hj hi e.symm)
  have hR4 : RR S1 S4 := rr_eq hR rfl rfl rfl (o2 13 (by decide)) (o2 1 (by decide)) (o2 2 (by decide))
  refine lv_pop hx hb dL_law_1103 rfl ?_
  refine lv_goto (tgt := 2159) hx hb dL_law_1104 (by decide) ?_
  exact K S1 S4 H locs ls hG3 hG4 hR4 hP3 hP4 hS hl
set_option maxHeartbeats 4000000 in
set_option maxRecDepth 100000 in
theorem law_case_29 {p : Program} {l : Launch} {e : Env} {s : State} {m : MethodId} {below : List Frame} {meth : Method} {c : Code} {b L : Nat} {xs : Nat → Int32} (C0 : lw_At p s m meth c b L xs) {g : GG} {tt : TT} {ad1 ad2 : Nat → Nat} (hK : KK g s) (hT : TW tt (fun q : Nat => s.heap.size ≤ q) s s.heap) (hD1 : Dj ad1 122) (hD2 : Dj ad2 20) (hA1 : ∀ i, i < 122 → (fun q : Nat => s.heap.size ≤ q) (ad1 i)) (hA2 : ∀ i, i < 20 → (fun q : Nat => s.heap.size ≤ q) (ad2 i)) (hne : ∀ i j, i < 122 → j < 20 → ad1 i ≠ ad2 j) {i : Nat} (hi : i + 6 ≤ L) (hL : L ≤ 3072) {S1 S2 : SS} (hG1 : GX g ad1 S1) (hG2 : GM g ad2 S2) (hR : RR S1 S2) {H : Heap} {locs : List Loc} (hP1 : PW g ad1 122 S1 H) (hP2 : PW g ad2 20 S2 H) (hS : va_S (fun q : Nat => s.heap.size ≤ q) s.heap H locs) {ls : Array Slot} (hl : lv_has ls 4 [(0, .ref b), (1, .ref (ad1 0)), (2, .ref (ad2 0)), (3, .int (nI i))]) (K : (∀ (S1 S2 : SS) (H : Heap) (locs : List Loc) (ls : Array Slot), GX g ad1 S1 → GM g ad2 S2 → RR S1 S2 → PW g ad1 122 S1 H → PW g ad2 20 S2 H → va_S (fun q : Nat => s.heap.size ≤ q) s.heap H locs → lv_has ls 4 [(0, .ref b), (1, .ref (ad1 0)), (2, .ref (ad2 0)), (3, .int (nI i))] → W p l e room_1 s m #[Value.ref b] below meth c H locs 142 12631 (lw_Z below #[Value.ref b] s) (F0 m 2159 ls []))) : W p l e room_1 s m #[Value.ref b] below meth c H locs 142 12631 (lw_Z below #[Value.ref b] s) (F0 m 1107 ls []) := by
  obtain ⟨hx, hb, hr, hml, hown, hts, hX, hbl, hlocks, hgv⟩ := id C0
  have hbA : ¬ (fun q : Nat => s.heap.size ≤ q) b := Nat.not_le.mpr hbl
  have E : Ev p s m #[Value.ref b] c cL_law "EbbWreckLaw" g := ⟨hx, hb, hown, fun w h => hts w (List.mem_filter.mp h).1, hK⟩
  refine lv_aload_n hx hb dL_law_1107 rfl (lv_at hl 1 rfl) ?_
  refine lv_aload_n hx hb dL_law_1108 rfl (lv_at hl 0 rfl) ?_
  refine lv_iload_n hx hb dL_law_1109 rfl (lv_at hl 3 rfl) ?_
  refine lv_iconst (v := 1) hx hb dL_law_1110 (by decide) ?_
  refine lv_iadd hx hb dL_law_1111 ?_
  refine sb_at (P := fun z => W _ _ _ _ _ _ _ _ _ _ _ _ _ _ _ (F0 _ _ _ (.int z :: _))) (nI_add i 1) ?_
  refine va_sld hx hb hX hbl hbA hS (vp_in_nI (show i + 1 < L by omega) (by omega)) dL_law_1112 ?_
  refine sb_at (P := fun z => W _ _ _ _ _ _ _ _ _ _ _ _ _ _ _ (F0 _ _ _ (.int z :: _))) (show xs (nI (i + 1)).toNatClampNeg = xs (i + 1) by rw [nI_clamp (by omega)]) ?_
  refine lv_aload_n hx hb dL_law_1113 rfl (lv_at hl 0 rfl) ?_
  refine lv_iload_n hx hb dL_law_1114 rfl (lv_at hl 3 rfl) ?_
  refine lv_iconst (v := 2) hx hb dL_law_1115 (by decide) ?_
  refine lv_iadd hx hb dL_law_1116 ?_
  refine sb_at (P := fun z => W _ _ _ _ _ _ _ _ _ _ _ _ _ _ _ (F0 _ _ _ (.int z :: _))) (nI_add i 2) ?_
  refine va_sld hx hb hX hbl hbA hS (vp_in_nI (show i + 2 < L by omega) (by omega)) dL_law_1117 ?_
  refine sb_at (P := fun z => W _ _ _ _ _ _ _ _ _ _ _ _ _ _ _ (F0 _ _ _ (.int z :: _))) (show xs (nI (i + 2)).toNatClampNeg = xs (i + 2) by rw [nI_clamp (by omega)]) ?_
  obtain ⟨hI1, r2, r39, r57, r75, ar2, ar39, ar57, ar75⟩ := id hG1
  obtain ⟨_, _, _, cc1, _⟩ := invX_0 hI1
  refine xcVi E ⟨hD1, hA1⟩ (⟨hP1, hS⟩ : Hp g ad1 122 S1 (fun q : Nat => s.heap.size ≤ q) s.heap H locs) hml hl.1 0 (gX11_meet_0 l g ad1 hD1 S1 hI1 (xs (i + 1)) (xs (i + 2)) (by omega) (by omega) (by omega)) mX11_meet q984 (by decide) cc1 rfl rfl ⟨(Nat.le_of_ble_eq_true rfl), (Nat.le_of_ble_eq_true rfl)⟩ ⟨(Nat.le_of_ble_eq_true rfl), (Nat.le_of_ble_eq_true rfl)⟩ (Nat.le_of_ble_eq_true rfl) rfl dL_law_1118 (fun r1 S3 H locs hp1 hQ1 hk1 => ?_)
  obtain ⟨hI3, o1, bb1⟩ := hp1
  have hG3 : GX g ad1 S3 := ⟨hI3, (by rw [o1 2 (by decide)]; exact r2), (by rw [o1 39 (by decide)]; exact r39), (by rw [o1 57 (by decide)]; exact r57), (by rw [o1 75 (by decide)]; exact r75), (ar_tr ar2 (o1 16 (by decide)) (o1 17 (by decide)) (o1 18 (by decide)) (o1 19 (by decide))), (ar_tr ar39 (o1 53 (by decide)) (o1 54 (by decide)) (o1 55 (by decide)) (o1 56 (by decide))), (ar_tr ar57 (o1 71 (by decide)) (o1 72 (by decide)) (o1 73 (by decide)) (o1 74 (by decide))), (ar_tr ar75 (o1 89 (by decide)) (o1 90 (by decide)) (o1 91 (by decide)) (o1 92 (by decide)))⟩
  have hP3 : PW g ad1 122 S3 H := hQ1.1
  have hS := hQ1.2
  have hP2 : PW g ad2 20 S2 H := pw_kept hP2 hk1 hne
  refine lv_pop hx hb dL_law_1121 rfl ?_
  refine lv_aload_n hx hb dL_law_1122 rfl (lv_at hl 2 rfl) ?_
  refine lv_aload_n hx hb dL_law_1123 rfl (lv_at hl 0 rfl) ?_
  refine lv_iload_n hx hb dL_law_1124 rfl (lv_at hl 3 rfl) ?_
  refine lv_iconst (v := 1) hx hb dL_law_1125 (by decide) ?_
  refine lv_iadd hx hb dL_law_1126 ?_
  refine sb_at (P := fun z => W _ _ _ _ _ _ _ _ _ _ _ _ _ _ _ (F0 _ _ _ (.int z :: _))) (nI_add i 1) ?_
  refine va_sld hx hb hX hbl hbA hS (vp_in_nI (show i + 1 < L by omega) (by omega)) dL_law_1127 ?_
  refine sb_at (P := fun z => W _ _ _ _ _ _ _ _ _ _ _ _ _ _ _ (F0 _ _ _ (.int z :: _))) (show xs (nI (i + 1)).toNatClampNeg = xs (i + 1) by rw [nI_clamp (by omega)]) ?_
  refine lv_aload_n hx hb dL_law_1128 rfl (lv_at hl 0 rfl) ?_
  refine lv_iload_n hx hb dL_law_1129 rfl (lv_at hl 3 rfl) ?_
  refine lv_iconst (v := 2) hx hb dL_law_1130 (by decide) ?_
  refine lv_iadd hx hb dL_law_1131 ?_
  refine sb_at (P := fun z => W _ _ _ _ _ _ _ _ _ _ _ _ _ _ _ (F0 _ _ _ (.int z :: _))) (nI_add i 2) ?_
  refine va_sld hx hb hX hbl hbA hS (vp_in_nI (show i + 2 < L by omega) (by omega)) dL_law_1132 ?_
  refine sb_at (P := fun z => W _ _ _ _ _ _ _ _ _ _ _ _ _ _ _ (F0 _ _ _ (.int z :: _))) (show xs (nI (i + 2)).toNatClampNeg = xs (i + 2) by rw [nI_clamp (by omega)]) ?_
  obtain ⟨hI2, t0, t1, t2, t3, at0, at1, at2, at3, ht0, ht1, ht2, ht3⟩ := id hG2
  obtain ⟨_, _, _, _, _, _, _, _, _, _, _, _, _, _, _, _, _, _, _, cc2, _, _, _, _, _, _, _, _, _⟩ := invM_0 hI2
  refine xcVi E ⟨hD2, hA2⟩ (⟨hP2, hS⟩ : Hp g ad2 20 S2 (fun q : Nat => s.heap.size ≤ q) s.heap H locs) hml hl.1 0 (gX12_meet_0 l g ad2 hD2 S2 hI2 (xs (i + 1)) (xs (i + 2)) (by omega) (by omega) (by omega) (by omega) (by omega) at0) mX12_meet q1970 (by decide) cc2 rfl rfl ⟨(Nat.le_of_ble_eq_true rfl), (Nat.le_of_ble_eq_true rfl)⟩ ⟨(Nat.le_of_ble_eq_true rfl), (Nat.le_of_ble_eq_true rfl)⟩ (Nat.le_of_ble_eq_true rfl) rfl dL_law_1133 (fun r2 S4 H locs hp2 hQ2 hk2 => ?_)
  obtain ⟨hI4, o2, bb2⟩ := hp2
  have hG4 : GM g ad2 S4 := ⟨hI4, (by rw [o2 6 (by decide), o2 7 (by decide)]; exact t0), (by rw [o2 6 (by decide), o2 7 (by decide)]; exact t1), (by rw [o2 6 (by decide), o2 7 (by decide)]; exact t2), (by rw [o2 6 (by decide), o2 7 (by decide)]; exact t3), (at_tr at0 (o2 7 (by decide)) (o2 12 (by decide))), (at_tr at1 (o2 7 (by decide)) (o2 12 (by decide))), (at_tr at2 (o2 7 (by decide)) (o2 12 (by decide))), (at_tr at3 (o2 7 (by decide)) (o2 12 (by decide))), (ht_tr ht0 (o2 7 (by decide)) (o2 9 (by decide))), (ht_tr ht1 (o2 7 (by decide)) (o2 9 (by decide))), (ht_tr ht2 (o2 7 (by decide)) (o2 9 (by decide))), (ht_tr ht3 (o2 7 (by decide)) (o2 9 (by decide)))⟩
  have hS := hQ2.2
  have hP4 : PW g ad2 20 S4 H := hQ2.1
  have hP3 : PW g ad1 122 S3 H := pw_kept hP3 hk2 (fun i j hi hj e => hne j i hj hi e.symm)
  have hR4 : RR S3 S4 := rr_eq hR (o1 93 (by decide)) (o1 117 (by decide)) (o1 118 (by decide)) (o2 13 (by decide)) (o2 1 (by decide)) (o2 2 (by decide))
  refine lv_pop hx hb dL_law_1136 rfl ?_
  refine lv_goto (tgt := 2159) hx hb dL_law_1137 (by decide) ?_
  exact K S3 S4 H locs ls hG3 hG4 hR4 hP3 hP4 hS hl
set_option maxHeartbeats 4000000 in
set_option maxRecDepth 100000 in
theorem law_case_30 {p : Program} {l : Launch} {e : Env} {s : State} {m : MethodId} {below : List Frame} {meth : Method} {c : Code} {b L : Nat} {xs : Nat → Int32} (C0 : lw_At p s m meth c b L xs) {g : GG} {tt : TT} {ad1 ad2 : Nat → Nat} (hK : KK g s) (hT : TW tt (fun q : Nat => s.heap.size ≤ q) s s.heap) (hD1 : Dj ad1 122) (hD2 : Dj ad2 20) (hA1 : ∀ i, i < 122 → (fun q : Nat => s.heap.size ≤ q) (ad1 i)) (hA2 : ∀ i, i < 20 → (fun q : Nat => s.heap.size ≤ q) (ad2 i)) (hne : ∀ i j, i < 122 → j < 20 → ad1 i ≠ ad2 j) {i : Nat} (hi : i + 6 ≤ L) (hL : L ≤ 3072) {S1 S2 : SS} (hG1 : GX g ad1 S1) (hG2 : GM g ad2 S2) (hR : RR S1 S2) {H : Heap} {locs : List Loc} (hP1 : PW g ad1 122 S1 H) (hP2 : PW g ad2 20 S2 H) (hS : va_S (fun q : Nat => s.heap.size ≤ q) s.heap H locs) {ls : Array Slot} (hl : lv_has ls 4 [(0, .ref b), (1, .ref (ad1 0)), (2, .ref (ad2 0)), (3, .int (nI i))]) (K : (∀ (S1 S2 : SS) (H : Heap) (locs : List Loc) (ls : Array Slot), GX g ad1 S1 → GM g ad2 S2 → RR S1 S2 → PW g ad1 122 S1 H → PW g ad2 20 S2 H → va_S (fun q : Nat => s.heap.size ≤ q) s.heap H locs → lv_has ls 4 [(0, .ref b), (1, .ref (ad1 0)), (2, .ref (ad2 0)), (3, .int (nI i))] → W p l e room_1 s m #[Value.ref b] below meth c H locs 142 12631 (lw_Z below #[Value.ref b] s) (F0 m 2159 ls []))) : W p l e room_1 s m #[Value.ref b] below meth c H locs 142 12631 (lw_Z below #[Value.ref b] s) (F0 m 1140 ls []) := by
  obtain ⟨hx, hb, hr, hml, hown, hts, hX, hbl, hlocks, hgv⟩ := id C0
  have hbA : ¬ (fun q : Nat => s.heap.size ≤ q) b := Nat.not_le.mpr hbl
  have E : Ev p s m #[Value.ref b] c cL_law "EbbWreckLaw" g := ⟨hx, hb, hown, fun w h => hts w (List.mem_filter.mp h).1, hK⟩
  refine lv_aload_n hx hb dL_law_1140 rfl (lv_at hl 1 rfl) ?_
  refine lv_aload_n hx hb dL_law_1141 rfl (lv_at hl 0 rfl) ?_
  refine lv_iload_n hx hb dL_law_1142 rfl (lv_at hl 3 rfl) ?_
  refine lv_iconst (v := 1) hx hb dL_law_1143 (by decide) ?_
  refine lv_iadd hx hb dL_law_1144 ?_
  refine sb_at (P := fun z => W _ _ _ _ _ _ _ _ _ _ _ _ _ _ _ (F0 _ _ _ (.int z :: _))) (nI_add i 1) ?_
  refine va_sld hx hb hX hbl hbA hS (vp_in_nI (show i + 1 < L by omega) (by omega)) dL_law_1145 ?_
  refine sb_at (P := fun z => W _ _ _ _ _ _ _ _ _ _ _ _ _ _ _ (F0 _ _ _ (.int z :: _))) (show xs (nI (i + 1)).toNatClampNeg = xs (i + 1) by rw [nI_clamp (by omega)]) ?_
  obtain ⟨hI1, r2, r39, r57, r75, ar2, ar39, ar57, ar75⟩ := id hG1
  obtain ⟨_, _, _, cc1, _⟩ := invX_0 hI1
  refine xcVi E ⟨hD1, hA1⟩ (⟨hP1, hS⟩ : Hp g ad1 122 S1 (fun q : Nat => s.heap.size ≤ q) s.heap H locs) hml hl.1 0 (gX11_lasts_0 l g ad1 hD1 S1 hI1 (xs (i + 1)) (by omega) (by omega) (by omega)) mX11_lasts q900 (by decide) cc1 rfl rfl ⟨(Nat.le_of_ble_eq_true rfl), (Nat.le_of_ble_eq_true rfl)⟩ ⟨(Nat.le_of_ble_eq_true rfl), (Nat.le_of_ble_eq_true rfl)⟩ (Nat.le_of_ble_eq_true rfl) rfl dL_law_1146 (fun r1 S3 H locs hp1 hQ1 hk1 => ?_)
  obtain ⟨rfl, bb1⟩ := hp1
  have hG3 := hG1
  have hP3 : PW g ad1 122 S1 H := hQ1.1
  have hS := hQ1.2
  have hP2 : PW g ad2 20 S2 H := pw_kept hP2 hk1 hne
  refine lv_pop hx hb dL_law_1149 rfl ?_
  refine lv_aload_n hx hb dL_law_1150 rfl (lv_at hl 2 rfl) ?_
  refine lv_aload_n hx hb dL_law_1151 rfl (lv_at hl 0 rfl) ?_
  refine lv_iload_n hx hb dL_law_1152 rfl (lv_at hl 3 rfl) ?_
  refine lv_iconst (v := 1) hx hb dL_law_1153 (by decide) ?_
  refine lv_iadd hx hb dL_law_1154 ?_
  refine sb_at (P := fun z => W _ _ _ _ _ _ _ _ _ _ _ _ _ _ _ (F0 _ _ _ (.int z :: _))) (nI_add i 1) ?_
  refine va_sld hx hb hX hbl hbA hS (vp_in_nI (show i + 1 < L by omega) (by omega)) dL_law_1155 ?_
  refine sb_at (P := fun z => W _ _ _ _ _ _ _ _ _ _ _ _ _ _ _ (F0 _ _ _ (.int z :: _))) (show xs (nI (i + 1)).toNatClampNeg = xs (i + 1) by rw [nI_clamp (by omega)]) ?_
  obtain ⟨hI2, t0, t1, t2, t3, at0, at1, at2, at3, ht0, ht1, ht2, ht3⟩ := id hG2
  obtain ⟨_, _, _, _, _, _, _, _, _, _, _, _, _, _, _, _, _, _, _, cc2, _, _, _, _, _, _, _, _, _⟩ := invM_0 hI2
  refine xcVi E ⟨hD2, hA2⟩ (⟨hP2, hS⟩ : Hp g ad2 20 S2 (fun q : Nat => s.heap.size ≤ q) s.heap H locs) hml hl.1 0 (gX12_lasts_0 l g ad2 hD2 S2 hI2 (xs (i + 1)) (by omega) (by omega) (by omega) (by omega) (by omega)) mX12_lasts q1974 (by decide) cc2 rfl rfl ⟨(Nat.le_of_ble_eq_true rfl), (Nat.le_of_ble_eq_true rfl)⟩ ⟨(Nat.le_of_ble_eq_true rfl), (Nat.le_of_ble_eq_true rfl)⟩ (Nat.le_of_ble_eq_true rfl) rfl dL_law_1156 (fun r2 S4 H locs hp2 hQ2 hk2 => ?_)
  obtain ⟨hI4, o2, bb2⟩ := hp2
  have hG4 : GM g ad2 S4 := ⟨hI4, (by rw [o2 6 (by decide), o2 7 (by decide)]; exact t0), (by rw [o2 6 (by decide), o2 7 (by decide)]; exact t1), (by rw [o2 6 (by decide), o2 7 (by decide)]; exact t2), (by rw [o2 6 (by decide), o2 7 (by decide)]; exact t3), (at_tr at0 (o2 7 (by decide)) (o2 12 (by decide))), (at_tr at1 (o2 7 (by decide)) (o2 12 (by decide))), (at_tr at2 (o2 7 (by decide)) (o2 12 (by decide))), (at_tr at3 (o2 7 (by decide)) (o2 12 (by decide))), (ht_tr ht0 (o2 7 (by decide)) (o2 9 (by decide))), (ht_tr ht1 (o2 7 (by decide)) (o2 9 (by decide))), (ht_tr ht2 (o2 7 (by decide)) (o2 9 (by decide))), (ht_tr ht3 (o2 7 (by decide)) (o2 9 (by decide)))⟩
  have hS := hQ2.2
  have hP4 : PW g ad2 20 S4 H := hQ2.1
  have hP3 : PW g ad1 122 S1 H := pw_kept hP3 hk2 (fun i j hi hj e => hne j i hj hi e.symm)
  have hR4 : RR S1 S4 := rr_eq hR rfl rfl rfl (o2 13 (by decide)) (o2 1 (by decide)) (o2 2 (by decide))
  refine lv_pop hx hb dL_law_1159 rfl ?_
  refine lv_goto (tgt := 2159) hx hb dL_law_1160 (by decide) ?_
  exact K S1 S4 H locs ls hG3 hG4 hR4 hP3 hP4 hS hl
set_option maxHeartbeats 4000000 in
set_option maxRecDepth 100000 in
theorem law_case_31 {p : Program} {l : Launch} {e : Env} {s : State} {m : MethodId} {below : List Frame} {meth : Method} {c : Code} {b L : Nat} {xs : Nat → Int32} (C0 : lw_At p s m meth c b L xs) {g : GG} {tt : TT} {ad1 ad2 : Nat → Nat} (hK : KK g s) (hT : TW tt (fun q : Nat => s.heap.size ≤ q) s s.heap) (hD1 : Dj ad1 122) (hD2 : Dj ad2 20) (hA1 : ∀ i, i < 122 → (fun q : Nat => s.heap.size ≤ q) (ad1 i)) (hA2 : ∀ i, i < 20 → (fun q : Nat => s.heap.size ≤ q) (ad2 i)) (hne : ∀ i j, i < 122 → j < 20 → ad1 i ≠ ad2 j) {i : Nat} (hi : i + 6 ≤ L) (hL : L ≤ 3072) {S1 S2 : SS} (hG1 : GX g ad1 S1) (hG2 : GM g ad2 S2) (hR : RR S1 S2) {H : Heap} {locs : List Loc} (hP1 : PW g ad1 122 S1 H) (hP2 : PW g ad2 20 S2 H) (hS : va_S (fun q : Nat => s.heap.size ≤ q) s.heap H locs) {ls : Array Slot} (hl : lv_has ls 4 [(0, .ref b), (1, .ref (ad1 0)), (2, .ref (ad2 0)), (3, .int (nI i))]) (K : (∀ (S1 S2 : SS) (H : Heap) (locs : List Loc) (ls : Array Slot), GX g ad1 S1 → GM g ad2 S2 → RR S1 S2 → PW g ad1 122 S1 H → PW g ad2 20 S2 H → va_S (fun q : Nat => s.heap.size ≤ q) s.heap H locs → lv_has ls 4 [(0, .ref b), (1, .ref (ad1 0)), (2, .ref (ad2 0)), (3, .int (nI i))] → W p l e room_1 s m #[Value.ref b] below meth c H locs 142 12631 (lw_Z below #[Value.ref b] s) (F0 m 2159 ls []))) : W p l e room_1 s m #[Value.ref b] below meth c H locs 142 12631 (lw_Z below #[Value.ref b] s) (F0 m 1163 ls []) := by
  obtain ⟨hx, hb, hr, hml, hown, hts, hX, hbl, hlocks, hgv⟩ := id C0
  have hbA : ¬ (fun q : Nat => s.heap.size ≤ q) b := Nat.not_le.mpr hbl
  have E : Ev p s m #[Value.ref b] c cL_law "EbbWreckLaw" g := ⟨hx, hb, hown, fun w h => hts w (List.mem_filter.mp h).1, hK⟩
  refine lv_aload_n hx hb dL_law_1163 rfl (lv_at hl 1 rfl) ?_
  refine lv_aload_n hx hb dL_law_1164 rfl (lv_at hl 0 rfl) ?_
  refine lv_iload_n hx hb dL_law_1165 rfl (lv_at hl 3 rfl) ?_
  refine lv_iconst (v := 1) hx hb dL_law_1166 (by decide) ?_
  refine lv_iadd hx hb dL_law_1167 ?_
  refine sb_at (P := fun z => W _ _ _ _ _ _ _ _ _ _ _ _ _ _ _ (F0 _ _ _ (.int z :: _))) (nI_add i 1) ?_
  refine va_sld hx hb hX hbl hbA hS (vp_in_nI (show i + 1 < L by omega) (by omega)) dL_law_1168 ?_
  refine sb_at (P := fun z => W _ _ _ _ _ _ _ _ _ _ _ _ _ _ _ (F0 _ _ _ (.int z :: _))) (show xs (nI (i + 1)).toNatClampNeg = xs (i + 1) by rw [nI_clamp (by omega)]) ?_
  obtain ⟨hI1, r2, r39, r57, r75, ar2, ar39, ar57, ar75⟩ := id hG1
  obtain ⟨_, _, _, cc1, _⟩ := invX_0 hI1
  refine xcVi E ⟨hD1, hA1⟩ (⟨hP1, hS⟩ : Hp g ad1 122 S1 (fun q : Nat => s.heap.size ≤ q) s.heap H locs) hml hl.1 0 (gX11_slacks_0 l g ad1 hD1 S1 hI1 (xs (i + 1)) (by omega) (by omega) (by omega)) mX11_slacks q908 (by decide) cc1 rfl rfl ⟨(Nat.le_of_ble_eq_true rfl), (Nat.le_of_ble_eq_true rfl)⟩ ⟨(Nat.le_of_ble_eq_true rfl), (Nat.le_of_ble_eq_true rfl)⟩ (Nat.le_of_ble_eq_true rfl) rfl dL_law_1169 (fun r1 S3 H locs hp1 hQ1 hk1 => ?_)
  subst hp1
  have hG3 := hG1
  have hP3 : PW g ad1 122 S1 H := hQ1.1
  have hS := hQ1.2
  have hP2 : PW g ad2 20 S2 H := pw_kept hP2 hk1 hne
  refine lv_pop hx hb dL_law_1172 rfl ?_
  refine lv_aload_n hx hb dL_law_1173 rfl (lv_at hl 2 rfl) ?_
  refine lv_aload_n hx hb dL_law_1174 rfl (lv_at hl 0 rfl) ?_
  refine lv_iload_n hx hb dL_law_1175 rfl (lv_at hl 3 rfl) ?_
  refine lv_iconst (v := 1) hx hb dL_law_1176 (by decide) ?_
  refine lv_iadd hx hb dL_law_1177 ?_
  refine sb_at (P := fun z => W _ _ _ _ _ _ _ _ _ _ _ _ _ _ _ (F0 _ _ _ (.int z :: _))) (nI_add i 1) ?_
  refine va_sld hx hb hX hbl hbA hS (vp_in_nI (show i + 1 < L by omega) (by omega)) dL_law_1178 ?_
  refine sb_at (P := fun z => W _ _ _ _ _ _ _ _ _ _ _ _ _ _ _ (F0 _ _ _ (.int z :: _))) (show xs (nI (i + 1)).toNatClampNeg = xs (i + 1) by rw [nI_clamp (by omega)]) ?_
  obtain ⟨hI2, t0, t1, t2, t3, at0, at1, at2, at3, ht0, ht1, ht2, ht3⟩ := id hG2
  obtain ⟨_, _, _, _, _, _, _, _, _, _, _, _, _, _, _, _, _, _, _, cc2, _, _, _, _, _, _, _, _, _⟩ := invM_0 hI2
  refine xcVi E ⟨hD2, hA2⟩ (⟨hP2, hS⟩ : Hp g ad2 20 S2 (fun q : Nat => s.heap.size ≤ q) s.heap H locs) hml hl.1 0 (gX12_slacks_0 l g ad2 hD2 S2 hI2 (xs (i + 1)) (by omega) (by omega) (by omega) (by omega) (by omega)) mX12_slacks q1978 (by decide) cc2 rfl rfl ⟨(Nat.le_of_ble_eq_true rfl), (Nat.le_of_ble_eq_true rfl)⟩ ⟨(Nat.le_of_ble_eq_true rfl), (Nat.le_of_ble_eq_true rfl)⟩ (Nat.le_of_ble_eq_true rfl) rfl dL_law_1179 (fun r2 S4 H locs hp2 hQ2 hk2 => ?_)
  obtain ⟨hI4, o2⟩ := hp2
  have hG4 : GM g ad2 S4 := ⟨hI4, (by rw [o2 6 (by decide), o2 7 (by decide)]; exact t0), (by rw [o2 6 (by decide), o2 7 (by decide)]; exact t1), (by rw [o2 6 (by decide), o2 7 (by decide)]; exact t2), (by rw [o2 6 (by decide), o2 7 (by decide)]; exact t3), (at_tr at0 (o2 7 (by decide)) (o2 12 (by decide))), (at_tr at1 (o2 7 (by decide)) (o2 12 (by decide))), (at_tr at2 (o2 7 (by decide)) (o2 12 (by decide))), (at_tr at3 (o2 7 (by decide)) (o2 12 (by decide))), (ht_tr ht0 (o2 7 (by decide)) (o2 9 (by decide))), (ht_tr ht1 (o2 7 (by decide)) (o2 9 (by decide))), (ht_tr ht2 (o2 7 (by decide)) (o2 9 (by decide))), (ht_tr ht3 (o2 7 (by decide)) (o2 9 (by decide)))⟩
  have hS := hQ2.2
  have hP4 : PW g ad2 20 S4 H := hQ2.1
  have hP3 : PW g ad1 122 S1 H := pw_kept hP3 hk2 (fun i j hi hj e => hne j i hj hi e.symm)
  have hR4 : RR S1 S4 := rr_eq hR rfl rfl rfl (o2 13 (by decide)) (o2 1 (by decide)) (o2 2 (by decide))
  refine lv_pop hx hb dL_law_1182 rfl ?_
  refine lv_goto (tgt := 2159) hx hb dL_law_1183 (by decide) ?_
  exact K S1 S4 H locs ls hG3 hG4 hR4 hP3 hP4 hS hl
