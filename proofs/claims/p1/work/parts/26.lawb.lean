set_option maxHeartbeats 4000000 in
set_option maxRecDepth 100000 in
theorem law_case_0 {p : Program} {l : Launch} {e : Env} {s : State} {m : MethodId} {below : List Frame} {meth : Method} {c : Code} {b : Nat} {xs : Nat → Int32} (C0 : lw_At p s m meth c b 6 xs) {g : GG} {ad1 ad2 : Nat → Nat} (hK : KK g s) (hD1 : Dj ad1 122) (hD2 : Dj ad2 20) (hA1 : ∀ i, i < 122 → (fun q : Nat => s.heap.size ≤ q) (ad1 i)) (hA2 : ∀ i, i < 20 → (fun q : Nat => s.heap.size ≤ q) (ad2 i)) (hne : ∀ i j, i < 122 → j < 20 → ad1 i ≠ ad2 j) {H : Heap} {locs : List Loc} (hP1 : PW g ad1 122 (X0 g ad1) H) (hP2 : PW g ad2 20 (M0 g ad2) H) (hS : va_S (fun q : Nat => s.heap.size ≤ q) s.heap H locs) {ls : Array Slot} (hl : lv_has ls 4 [(0, .ref b), (1, .ref (ad1 0)), (2, .ref (ad2 0)), (3, .int 0)]) : W p l e room_1 s m #[Value.ref b] below meth c H locs 142 12631 (lw_Z below #[Value.ref b] s) (F0 m 300 ls []) := by
  obtain ⟨hx, hb, hr, hml, hown, hts, hX, hbl, hlocks, hgv⟩ := id C0
  have hbA : ¬ (fun q : Nat => s.heap.size ≤ q) b := Nat.not_le.mpr hbl
  have E : Ev p s m #[Value.ref b] c cL_law "EbbWreckLaw" g := ⟨hx, hb, hown, fun w h => hts w (List.mem_filter.mp h).1, hK⟩
  have hQ1 : Hp g ad1 122 (X0 g ad1) (fun q : Nat => s.heap.size ≤ q) s.heap H locs := ⟨hP1, hS⟩
  refine lv_aload_n hx hb dL_law_300 rfl (lv_at hl 1 rfl) ?_
  refine lv_aload_n hx hb dL_law_301 rfl (lv_at hl 0 rfl) ?_
  refine lv_iload_n hx hb dL_law_302 rfl (lv_at hl 3 rfl) ?_
  refine lv_iconst (v := 1) hx hb dL_law_303 (by decide) ?_
  refine lv_iadd hx hb dL_law_304 ?_
  refine sb_at (P := fun z => W _ _ _ _ _ _ _ _ _ _ _ _ _ _ _ (F0 _ _ _ (.int z :: _))) (show (0 : Int32) + 1 = 1 by decide) ?_
  refine va_sld hx hb hX hbl hbA hS (vp_in_lit 1 6 (by decide)) dL_law_305 ?_
  refine lv_aload_n hx hb dL_law_306 rfl (lv_at hl 0 rfl) ?_
  refine lv_iload_n hx hb dL_law_307 rfl (lv_at hl 3 rfl) ?_
  refine lv_iconst (v := 2) hx hb dL_law_308 (by decide) ?_
  refine lv_iadd hx hb dL_law_309 ?_
  refine sb_at (P := fun z => W _ _ _ _ _ _ _ _ _ _ _ _ _ _ _ (F0 _ _ _ (.int z :: _))) (show (0 : Int32) + 2 = 2 by decide) ?_
  refine va_sld hx hb hX hbl hbA hS (vp_in_lit 2 6 (by decide)) dL_law_310 ?_
  refine lv_aload_n hx hb dL_law_311 rfl (lv_at hl 0 rfl) ?_
  refine lv_iload_n hx hb dL_law_312 rfl (lv_at hl 3 rfl) ?_
  refine lv_iconst (v := 3) hx hb dL_law_313 (by decide) ?_
  refine lv_iadd hx hb dL_law_314 ?_
  refine sb_at (P := fun z => W _ _ _ _ _ _ _ _ _ _ _ _ _ _ _ (F0 _ _ _ (.int z :: _))) (show (0 : Int32) + 3 = 3 by decide) ?_
  refine va_sld hx hb hX hbl hbA hS (vp_in_lit 3 6 (by decide)) dL_law_315 ?_
  refine lv_aload_n hx hb dL_law_316 rfl (lv_at hl 0 rfl) ?_
  refine lv_iload_n hx hb dL_law_317 rfl (lv_at hl 3 rfl) ?_
  refine lv_iconst (v := 4) hx hb dL_law_318 (by decide) ?_
  refine lv_iadd hx hb dL_law_319 ?_
  refine sb_at (P := fun z => W _ _ _ _ _ _ _ _ _ _ _ _ _ _ _ (F0 _ _ _ (.int z :: _))) (show (0 : Int32) + 4 = 4 by decide) ?_
  refine va_sld hx hb hX hbl hbA hS (vp_in_lit 4 6 (by decide)) dL_law_320 ?_
  refine lv_aload_n hx hb dL_law_321 rfl (lv_at hl 0 rfl) ?_
  refine lv_iload_n hx hb dL_law_322 rfl (lv_at hl 3 rfl) ?_
  refine lv_iconst (v := 5) hx hb dL_law_323 (by decide) ?_
  refine lv_iadd hx hb dL_law_324 ?_
  refine sb_at (P := fun z => W _ _ _ _ _ _ _ _ _ _ _ _ _ _ _ (F0 _ _ _ (.int z :: _))) (show (0 : Int32) + 5 = 5 by decide) ?_
  refine va_sld hx hb hX hbl hbA hS (vp_in_lit 5 6 (by decide)) dL_law_325 ?_
  refine xcVi E (hs := ⟨hD1, hA1⟩) hQ1 hml hl.1 0 (fX11_feed l g ad1 hD1 (X0 g ad1) (xs (1 : Int32).toNatClampNeg) (xs (2 : Int32).toNatClampNeg) (xs (3 : Int32).toNatClampNeg) (xs (4 : Int32).toNatClampNeg) (xs (5 : Int32).toNatClampNeg) (fun i hi => rfl)) mX11_feed q562 (by decide) rfl rfl rfl ⟨(Nat.le_of_ble_eq_true rfl), (Nat.le_of_ble_eq_true rfl)⟩ ⟨(Nat.le_of_ble_eq_true rfl), (Nat.le_of_ble_eq_true rfl)⟩ (Nat.le_of_ble_eq_true rfl) rfl dL_law_326 (fun r1 S1 H locs hp1 hQ1 hk1 => ?_)
  have hS := hQ1.2
  have hQ2 : Hp g ad2 20 (M0 g ad2) (fun q : Nat => s.heap.size ≤ q) s.heap H locs := ⟨pw_kept hP2 hk1 hne, hQ1.2⟩
  refine lv_aload_n hx hb dL_law_329 rfl (lv_at hl 2 rfl) ?_
  refine lv_aload_n hx hb dL_law_330 rfl (lv_at hl 0 rfl) ?_
  refine lv_iload_n hx hb dL_law_331 rfl (lv_at hl 3 rfl) ?_
  refine lv_iconst (v := 1) hx hb dL_law_332 (by decide) ?_
  refine lv_iadd hx hb dL_law_333 ?_
  refine sb_at (P := fun z => W _ _ _ _ _ _ _ _ _ _ _ _ _ _ _ (F0 _ _ _ (.int z :: _))) (show (0 : Int32) + 1 = 1 by decide) ?_
  refine va_sld hx hb hX hbl hbA hS (vp_in_lit 1 6 (by decide)) dL_law_334 ?_
  refine lv_aload_n hx hb dL_law_335 rfl (lv_at hl 0 rfl) ?_
  refine lv_iload_n hx hb dL_law_336 rfl (lv_at hl 3 rfl) ?_
  refine lv_iconst (v := 2) hx hb dL_law_337 (by decide) ?_
  refine lv_iadd hx hb dL_law_338 ?_
  refine sb_at (P := fun z => W _ _ _ _ _ _ _ _ _ _ _ _ _ _ _ (F0 _ _ _ (.int z :: _))) (show (0 : Int32) + 2 = 2 by decide) ?_
  refine va_sld hx hb hX hbl hbA hS (vp_in_lit 2 6 (by decide)) dL_law_339 ?_
  refine lv_aload_n hx hb dL_law_340 rfl (lv_at hl 0 rfl) ?_
  refine lv_iload_n hx hb dL_law_341 rfl (lv_at hl 3 rfl) ?_
  refine lv_iconst (v := 3) hx hb dL_law_342 (by decide) ?_
  refine lv_iadd hx hb dL_law_343 ?_
  refine sb_at (P := fun z => W _ _ _ _ _ _ _ _ _ _ _ _ _ _ _ (F0 _ _ _ (.int z :: _))) (show (0 : Int32) + 3 = 3 by decide) ?_
  refine va_sld hx hb hX hbl hbA hS (vp_in_lit 3 6 (by decide)) dL_law_344 ?_
  refine lv_aload_n hx hb dL_law_345 rfl (lv_at hl 0 rfl) ?_
  refine lv_iload_n hx hb dL_law_346 rfl (lv_at hl 3 rfl) ?_
  refine lv_iconst (v := 4) hx hb dL_law_347 (by decide) ?_
  refine lv_iadd hx hb dL_law_348 ?_
  refine sb_at (P := fun z => W _ _ _ _ _ _ _ _ _ _ _ _ _ _ _ (F0 _ _ _ (.int z :: _))) (show (0 : Int32) + 4 = 4 by decide) ?_
  refine va_sld hx hb hX hbl hbA hS (vp_in_lit 4 6 (by decide)) dL_law_349 ?_
  refine lv_aload_n hx hb dL_law_350 rfl (lv_at hl 0 rfl) ?_
  refine lv_iload_n hx hb dL_law_351 rfl (lv_at hl 3 rfl) ?_
  refine lv_iconst (v := 5) hx hb dL_law_352 (by decide) ?_
  refine lv_iadd hx hb dL_law_353 ?_
  refine sb_at (P := fun z => W _ _ _ _ _ _ _ _ _ _ _ _ _ _ _ (F0 _ _ _ (.int z :: _))) (show (0 : Int32) + 5 = 5 by decide) ?_
  refine va_sld hx hb hX hbl hbA hS (vp_in_lit 5 6 (by decide)) dL_law_354 ?_
  refine xcVi E (hs := ⟨hD2, hA2⟩) hQ2 hml hl.1 0 (fX12_feed l g ad2 hD2 (M0 g ad2) (xs (1 : Int32).toNatClampNeg) (xs (2 : Int32).toNatClampNeg) (xs (3 : Int32).toNatClampNeg) (xs (4 : Int32).toNatClampNeg) (xs (5 : Int32).toNatClampNeg) (fun i hi => rfl)) mX12_feed q1605 (by decide) rfl rfl rfl ⟨(Nat.le_of_ble_eq_true rfl), (Nat.le_of_ble_eq_true rfl)⟩ ⟨(Nat.le_of_ble_eq_true rfl), (Nat.le_of_ble_eq_true rfl)⟩ (Nat.le_of_ble_eq_true rfl) rfl dL_law_355 (fun r2 S2 H locs hp2 hQ2 hk2 => ?_)
  have hS := hQ2.2
  refine lv_icmp_eq (tgt := 2159) hx hb dL_law_358 (by decide) (fun _ => ?_) (fun h => absurd (Eq.trans hp1 (Eq.symm hp2)) h)
  exact law_tail C0 hS hl

set_option maxHeartbeats 4000000 in
set_option maxRecDepth 100000 in
theorem law_case_1 {p : Program} {l : Launch} {e : Env} {s : State} {m : MethodId} {below : List Frame} {meth : Method} {c : Code} {b : Nat} {xs : Nat → Int32} (C0 : lw_At p s m meth c b 6 xs) {g : GG} {ad1 ad2 : Nat → Nat} (hK : KK g s) (hD1 : Dj ad1 122) (hD2 : Dj ad2 20) (hA1 : ∀ i, i < 122 → (fun q : Nat => s.heap.size ≤ q) (ad1 i)) (hA2 : ∀ i, i < 20 → (fun q : Nat => s.heap.size ≤ q) (ad2 i)) (hne : ∀ i j, i < 122 → j < 20 → ad1 i ≠ ad2 j) {H : Heap} {locs : List Loc} (hP1 : PW g ad1 122 (X0 g ad1) H) (hP2 : PW g ad2 20 (M0 g ad2) H) (hS : va_S (fun q : Nat => s.heap.size ≤ q) s.heap H locs) {ls : Array Slot} (hl : lv_has ls 4 [(0, .ref b), (1, .ref (ad1 0)), (2, .ref (ad2 0)), (3, .int 0)]) : W p l e room_1 s m #[Value.ref b] below meth c H locs 142 12631 (lw_Z below #[Value.ref b] s) (F0 m 363 ls []) := by
  obtain ⟨hx, hb, hr, hml, hown, hts, hX, hbl, hlocks, hgv⟩ := id C0
  have hbA : ¬ (fun q : Nat => s.heap.size ≤ q) b := Nat.not_le.mpr hbl
  have E : Ev p s m #[Value.ref b] c cL_law "EbbWreckLaw" g := ⟨hx, hb, hown, fun w h => hts w (List.mem_filter.mp h).1, hK⟩
  have hQ1 : Hp g ad1 122 (X0 g ad1) (fun q : Nat => s.heap.size ≤ q) s.heap H locs := ⟨hP1, hS⟩
  refine lv_aload_n hx hb dL_law_363 rfl (lv_at hl 1 rfl) ?_
  refine lv_aload_n hx hb dL_law_364 rfl (lv_at hl 0 rfl) ?_
  refine lv_iload_n hx hb dL_law_365 rfl (lv_at hl 3 rfl) ?_
  refine lv_iconst (v := 1) hx hb dL_law_366 (by decide) ?_
  refine lv_iadd hx hb dL_law_367 ?_
  refine sb_at (P := fun z => W _ _ _ _ _ _ _ _ _ _ _ _ _ _ _ (F0 _ _ _ (.int z :: _))) (show (0 : Int32) + 1 = 1 by decide) ?_
  refine va_sld hx hb hX hbl hbA hS (vp_in_lit 1 6 (by decide)) dL_law_368 ?_
  refine xcVi E (hs := ⟨hD1, hA1⟩) hQ1 hml hl.1 0 (fX11_end l g ad1 hD1 (X0 g ad1) (fun i hi => rfl) (xs (1 : Int32).toNatClampNeg)) mX11_end q570 (by decide) rfl rfl rfl ⟨(Nat.le_of_ble_eq_true rfl), (Nat.le_of_ble_eq_true rfl)⟩ ⟨(Nat.le_of_ble_eq_true rfl), (Nat.le_of_ble_eq_true rfl)⟩ (Nat.le_of_ble_eq_true rfl) rfl dL_law_369 (fun r1 S1 H locs hp1 hQ1 hk1 => ?_)
  have hS := hQ1.2
  have hQ2 : Hp g ad2 20 (M0 g ad2) (fun q : Nat => s.heap.size ≤ q) s.heap H locs := ⟨pw_kept hP2 hk1 hne, hQ1.2⟩
  refine lv_aload_n hx hb dL_law_372 rfl (lv_at hl 2 rfl) ?_
  refine lv_aload_n hx hb dL_law_373 rfl (lv_at hl 0 rfl) ?_
  refine lv_iload_n hx hb dL_law_374 rfl (lv_at hl 3 rfl) ?_
  refine lv_iconst (v := 1) hx hb dL_law_375 (by decide) ?_
  refine lv_iadd hx hb dL_law_376 ?_
  refine sb_at (P := fun z => W _ _ _ _ _ _ _ _ _ _ _ _ _ _ _ (F0 _ _ _ (.int z :: _))) (show (0 : Int32) + 1 = 1 by decide) ?_
  refine va_sld hx hb hX hbl hbA hS (vp_in_lit 1 6 (by decide)) dL_law_377 ?_
  refine xcVi E (hs := ⟨hD2, hA2⟩) hQ2 hml hl.1 0 (fX12_end l g ad2 hD2 (M0 g ad2) (fun i hi => rfl) (xs (1 : Int32).toNatClampNeg)) mX12_end q1613 (by decide) rfl rfl rfl ⟨(Nat.le_of_ble_eq_true rfl), (Nat.le_of_ble_eq_true rfl)⟩ ⟨(Nat.le_of_ble_eq_true rfl), (Nat.le_of_ble_eq_true rfl)⟩ (Nat.le_of_ble_eq_true rfl) rfl dL_law_378 (fun r2 S2 H locs hp2 hQ2 hk2 => ?_)
  have hS := hQ2.2
  refine lv_icmp_eq (tgt := 2159) hx hb dL_law_381 (by decide) (fun _ => ?_) (fun h => absurd (Eq.trans hp1 (Eq.symm hp2)) h)
  exact law_tail C0 hS hl

set_option maxHeartbeats 4000000 in
set_option maxRecDepth 100000 in
theorem law_case_2 {p : Program} {l : Launch} {e : Env} {s : State} {m : MethodId} {below : List Frame} {meth : Method} {c : Code} {b : Nat} {xs : Nat → Int32} (C0 : lw_At p s m meth c b 6 xs) {g : GG} {ad1 ad2 : Nat → Nat} (hK : KK g s) (hD1 : Dj ad1 122) (hD2 : Dj ad2 20) (hA1 : ∀ i, i < 122 → (fun q : Nat => s.heap.size ≤ q) (ad1 i)) (hA2 : ∀ i, i < 20 → (fun q : Nat => s.heap.size ≤ q) (ad2 i)) (hne : ∀ i j, i < 122 → j < 20 → ad1 i ≠ ad2 j) {H : Heap} {locs : List Loc} (hP1 : PW g ad1 122 (X0 g ad1) H) (hP2 : PW g ad2 20 (M0 g ad2) H) (hS : va_S (fun q : Nat => s.heap.size ≤ q) s.heap H locs) {ls : Array Slot} (hl : lv_has ls 4 [(0, .ref b), (1, .ref (ad1 0)), (2, .ref (ad2 0)), (3, .int 0)]) : W p l e room_1 s m #[Value.ref b] below meth c H locs 142 12631 (lw_Z below #[Value.ref b] s) (F0 m 386 ls []) := by
  obtain ⟨hx, hb, hr, hml, hown, hts, hX, hbl, hlocks, hgv⟩ := id C0
  have hbA : ¬ (fun q : Nat => s.heap.size ≤ q) b := Nat.not_le.mpr hbl
  have E : Ev p s m #[Value.ref b] c cL_law "EbbWreckLaw" g := ⟨hx, hb, hown, fun w h => hts w (List.mem_filter.mp h).1, hK⟩
  have hQ1 : Hp g ad1 122 (X0 g ad1) (fun q : Nat => s.heap.size ≤ q) s.heap H locs := ⟨hP1, hS⟩
  refine lv_aload_n hx hb dL_law_386 rfl (lv_at hl 1 rfl) ?_
  refine xcVi E (hs := ⟨hD1, hA1⟩) hQ1 hml hl.1 0 (fX11_shore l g ad1 hD1 (X0 g ad1) (fun i hi => rfl)) mX11_shore q574 (by decide) rfl rfl rfl ⟨(Nat.le_of_ble_eq_true rfl), (Nat.le_of_ble_eq_true rfl)⟩ ⟨(Nat.le_of_ble_eq_true rfl), (Nat.le_of_ble_eq_true rfl)⟩ (Nat.le_of_ble_eq_true rfl) rfl dL_law_387 (fun r1 S1 H locs hp1 hQ1 hk1 => ?_)
  have hS := hQ1.2
  have hQ2 : Hp g ad2 20 (M0 g ad2) (fun q : Nat => s.heap.size ≤ q) s.heap H locs := ⟨pw_kept hP2 hk1 hne, hQ1.2⟩
  refine lv_aload_n hx hb dL_law_390 rfl (lv_at hl 2 rfl) ?_
  refine xcVi E (hs := ⟨hD2, hA2⟩) hQ2 hml hl.1 0 (fX12_shore l g ad2 hD2 (M0 g ad2) (fun i hi => rfl)) mX12_shore q1621 (by decide) rfl rfl rfl ⟨(Nat.le_of_ble_eq_true rfl), (Nat.le_of_ble_eq_true rfl)⟩ ⟨(Nat.le_of_ble_eq_true rfl), (Nat.le_of_ble_eq_true rfl)⟩ (Nat.le_of_ble_eq_true rfl) rfl dL_law_391 (fun r2 S2 H locs hp2 hQ2 hk2 => ?_)
  have hS := hQ2.2
  refine lv_icmp_eq (tgt := 2159) hx hb dL_law_394 (by decide) (fun _ => ?_) (fun h => absurd (Eq.trans hp1 (Eq.symm hp2)) h)
  exact law_tail C0 hS hl

set_option maxHeartbeats 4000000 in
set_option maxRecDepth 100000 in
theorem law_case_3 {p : Program} {l : Launch} {e : Env} {s : State} {m : MethodId} {below : List Frame} {meth : Method} {c : Code} {b : Nat} {xs : Nat → Int32} (C0 : lw_At p s m meth c b 6 xs) {g : GG} {ad1 ad2 : Nat → Nat} (hK : KK g s) (hD1 : Dj ad1 122) (hD2 : Dj ad2 20) (hA1 : ∀ i, i < 122 → (fun q : Nat => s.heap.size ≤ q) (ad1 i)) (hA2 : ∀ i, i < 20 → (fun q : Nat => s.heap.size ≤ q) (ad2 i)) (hne : ∀ i j, i < 122 → j < 20 → ad1 i ≠ ad2 j) {H : Heap} {locs : List Loc} (hP1 : PW g ad1 122 (X0 g ad1) H) (hP2 : PW g ad2 20 (M0 g ad2) H) (hS : va_S (fun q : Nat => s.heap.size ≤ q) s.heap H locs) {ls : Array Slot} (hl : lv_has ls 4 [(0, .ref b), (1, .ref (ad1 0)), (2, .ref (ad2 0)), (3, .int 0)]) : W p l e room_1 s m #[Value.ref b] below meth c H locs 142 12631 (lw_Z below #[Value.ref b] s) (F0 m 399 ls []) := by
  obtain ⟨hx, hb, hr, hml, hown, hts, hX, hbl, hlocks, hgv⟩ := id C0
  have hbA : ¬ (fun q : Nat => s.heap.size ≤ q) b := Nat.not_le.mpr hbl
  have E : Ev p s m #[Value.ref b] c cL_law "EbbWreckLaw" g := ⟨hx, hb, hown, fun w h => hts w (List.mem_filter.mp h).1, hK⟩
  have hQ1 : Hp g ad1 122 (X0 g ad1) (fun q : Nat => s.heap.size ≤ q) s.heap H locs := ⟨hP1, hS⟩
  refine lv_aload_n hx hb dL_law_399 rfl (lv_at hl 1 rfl) ?_
  refine lv_aload_n hx hb dL_law_400 rfl (lv_at hl 0 rfl) ?_
  refine lv_iload_n hx hb dL_law_401 rfl (lv_at hl 3 rfl) ?_
  refine lv_iconst (v := 1) hx hb dL_law_402 (by decide) ?_
  refine lv_iadd hx hb dL_law_403 ?_
  refine sb_at (P := fun z => W _ _ _ _ _ _ _ _ _ _ _ _ _ _ _ (F0 _ _ _ (.int z :: _))) (show (0 : Int32) + 1 = 1 by decide) ?_
  refine va_sld hx hb hX hbl hbA hS (vp_in_lit 1 6 (by decide)) dL_law_404 ?_
  refine xcVi E (hs := ⟨hD1, hA1⟩) hQ1 hml hl.1 0 (fX11_fault l g ad1 hD1 (X0 g ad1) (fun i hi => rfl) (xs (1 : Int32).toNatClampNeg)) mX11_fault q815 (by decide) rfl rfl rfl ⟨(Nat.le_of_ble_eq_true rfl), (Nat.le_of_ble_eq_true rfl)⟩ ⟨(Nat.le_of_ble_eq_true rfl), (Nat.le_of_ble_eq_true rfl)⟩ (Nat.le_of_ble_eq_true rfl) rfl dL_law_405 (fun r1 S1 H locs hp1 hQ1 hk1 => ?_)
  have hS := hQ1.2
  have hQ2 : Hp g ad2 20 (M0 g ad2) (fun q : Nat => s.heap.size ≤ q) s.heap H locs := ⟨pw_kept hP2 hk1 hne, hQ1.2⟩
  refine lv_aload_n hx hb dL_law_408 rfl (lv_at hl 2 rfl) ?_
  refine lv_aload_n hx hb dL_law_409 rfl (lv_at hl 0 rfl) ?_
  refine lv_iload_n hx hb dL_law_410 rfl (lv_at hl 3 rfl) ?_
  refine lv_iconst (v := 1) hx hb dL_law_411 (by decide) ?_
  refine lv_iadd hx hb dL_law_412 ?_
  refine sb_at (P := fun z => W _ _ _ _ _ _ _ _ _ _ _ _ _ _ _ (F0 _ _ _ (.int z :: _))) (show (0 : Int32) + 1 = 1 by decide) ?_
  refine va_sld hx hb hX hbl hbA hS (vp_in_lit 1 6 (by decide)) dL_law_413 ?_
  refine xcVi E (hs := ⟨hD2, hA2⟩) hQ2 hml hl.1 0 (fX12_fault l g ad2 hD2 (M0 g ad2) (fun i hi => rfl) (xs (1 : Int32).toNatClampNeg)) mX12_fault q1617 (by decide) rfl rfl rfl ⟨(Nat.le_of_ble_eq_true rfl), (Nat.le_of_ble_eq_true rfl)⟩ ⟨(Nat.le_of_ble_eq_true rfl), (Nat.le_of_ble_eq_true rfl)⟩ (Nat.le_of_ble_eq_true rfl) rfl dL_law_414 (fun r2 S2 H locs hp2 hQ2 hk2 => ?_)
  have hS := hQ2.2
  refine lv_icmp_eq (tgt := 2159) hx hb dL_law_417 (by decide) (fun _ => ?_) (fun h => absurd (Eq.trans hp1 (Eq.symm hp2)) h)
  exact law_tail C0 hS hl

set_option maxHeartbeats 4000000 in
set_option maxRecDepth 100000 in
theorem law_case_4 {p : Program} {l : Launch} {e : Env} {s : State} {m : MethodId} {below : List Frame} {meth : Method} {c : Code} {b : Nat} {xs : Nat → Int32} (C0 : lw_At p s m meth c b 6 xs) {g : GG} {ad1 ad2 : Nat → Nat} (hK : KK g s) (hD1 : Dj ad1 122) (hD2 : Dj ad2 20) (hA1 : ∀ i, i < 122 → (fun q : Nat => s.heap.size ≤ q) (ad1 i)) (hA2 : ∀ i, i < 20 → (fun q : Nat => s.heap.size ≤ q) (ad2 i)) (hne : ∀ i j, i < 122 → j < 20 → ad1 i ≠ ad2 j) {H : Heap} {locs : List Loc} (hP1 : PW g ad1 122 (X0 g ad1) H) (hP2 : PW g ad2 20 (M0 g ad2) H) (hS : va_S (fun q : Nat => s.heap.size ≤ q) s.heap H locs) {ls : Array Slot} (hl : lv_has ls 4 [(0, .ref b), (1, .ref (ad1 0)), (2, .ref (ad2 0)), (3, .int 0)]) : W p l e room_1 s m #[Value.ref b] below meth c H locs 142 12631 (lw_Z below #[Value.ref b] s) (F0 m 422 ls []) := by
  obtain ⟨hx, hb, hr, hml, hown, hts, hX, hbl, hlocks, hgv⟩ := id C0
  have hbA : ¬ (fun q : Nat => s.heap.size ≤ q) b := Nat.not_le.mpr hbl
  have E : Ev p s m #[Value.ref b] c cL_law "EbbWreckLaw" g := ⟨hx, hb, hown, fun w h => hts w (List.mem_filter.mp h).1, hK⟩
  have hQ1 : Hp g ad1 122 (X0 g ad1) (fun q : Nat => s.heap.size ≤ q) s.heap H locs := ⟨hP1, hS⟩
  refine lv_aload_n hx hb dL_law_422 rfl (lv_at hl 1 rfl) ?_
  refine lv_aload_n hx hb dL_law_423 rfl (lv_at hl 0 rfl) ?_
  refine lv_iload_n hx hb dL_law_424 rfl (lv_at hl 3 rfl) ?_
  refine lv_iconst (v := 1) hx hb dL_law_425 (by decide) ?_
  refine lv_iadd hx hb dL_law_426 ?_
  refine sb_at (P := fun z => W _ _ _ _ _ _ _ _ _ _ _ _ _ _ _ (F0 _ _ _ (.int z :: _))) (show (0 : Int32) + 1 = 1 by decide) ?_
  refine va_sld hx hb hX hbl hbA hS (vp_in_lit 1 6 (by decide)) dL_law_427 ?_
  refine lv_aload_n hx hb dL_law_428 rfl (lv_at hl 0 rfl) ?_
  refine lv_iload_n hx hb dL_law_429 rfl (lv_at hl 3 rfl) ?_
  refine lv_iconst (v := 2) hx hb dL_law_430 (by decide) ?_
  refine lv_iadd hx hb dL_law_431 ?_
  refine sb_at (P := fun z => W _ _ _ _ _ _ _ _ _ _ _ _ _ _ _ (F0 _ _ _ (.int z :: _))) (show (0 : Int32) + 2 = 2 by decide) ?_
  refine va_sld hx hb hX hbl hbA hS (vp_in_lit 2 6 (by decide)) dL_law_432 ?_
  refine xcVi E (hs := ⟨hD1, hA1⟩) hQ1 hml hl.1 0 (fX11_cell l g ad1 hD1 (X0 g ad1) (fun i hi => rfl) (xs (1 : Int32).toNatClampNeg) (xs (2 : Int32).toNatClampNeg)) mX11_cell q819 (by decide) rfl rfl rfl ⟨(Nat.le_of_ble_eq_true rfl), (Nat.le_of_ble_eq_true rfl)⟩ ⟨(Nat.le_of_ble_eq_true rfl), (Nat.le_of_ble_eq_true rfl)⟩ (Nat.le_of_ble_eq_true rfl) rfl dL_law_433 (fun r1 S1 H locs hp1 hQ1 hk1 => ?_)
  have hS := hQ1.2
  have hQ2 : Hp g ad2 20 (M0 g ad2) (fun q : Nat => s.heap.size ≤ q) s.heap H locs := ⟨pw_kept hP2 hk1 hne, hQ1.2⟩
  refine lv_aload_n hx hb dL_law_436 rfl (lv_at hl 2 rfl) ?_
  refine lv_aload_n hx hb dL_law_437 rfl (lv_at hl 0 rfl) ?_
  refine lv_iload_n hx hb dL_law_438 rfl (lv_at hl 3 rfl) ?_
  refine lv_iconst (v := 1) hx hb dL_law_439 (by decide) ?_
  refine lv_iadd hx hb dL_law_440 ?_
  refine sb_at (P := fun z => W _ _ _ _ _ _ _ _ _ _ _ _ _ _ _ (F0 _ _ _ (.int z :: _))) (show (0 : Int32) + 1 = 1 by decide) ?_
  refine va_sld hx hb hX hbl hbA hS (vp_in_lit 1 6 (by decide)) dL_law_441 ?_
  refine lv_aload_n hx hb dL_law_442 rfl (lv_at hl 0 rfl) ?_
  refine lv_iload_n hx hb dL_law_443 rfl (lv_at hl 3 rfl) ?_
  refine lv_iconst (v := 2) hx hb dL_law_444 (by decide) ?_
  refine lv_iadd hx hb dL_law_445 ?_
  refine sb_at (P := fun z => W _ _ _ _ _ _ _ _ _ _ _ _ _ _ _ (F0 _ _ _ (.int z :: _))) (show (0 : Int32) + 2 = 2 by decide) ?_
  refine va_sld hx hb hX hbl hbA hS (vp_in_lit 2 6 (by decide)) dL_law_446 ?_
  refine xcVi E (hs := ⟨hD2, hA2⟩) hQ2 hml hl.1 0 (fX12_cell l g ad2 hD2 (M0 g ad2) (fun i hi => rfl) (xs (1 : Int32).toNatClampNeg) (xs (2 : Int32).toNatClampNeg)) mX12_cell q1746 (by decide) rfl rfl rfl ⟨(Nat.le_of_ble_eq_true rfl), (Nat.le_of_ble_eq_true rfl)⟩ ⟨(Nat.le_of_ble_eq_true rfl), (Nat.le_of_ble_eq_true rfl)⟩ (Nat.le_of_ble_eq_true rfl) rfl dL_law_447 (fun r2 S2 H locs hp2 hQ2 hk2 => ?_)
  have hS := hQ2.2
  refine lv_icmp_eq (tgt := 2159) hx hb dL_law_450 (by decide) (fun _ => ?_) (fun h => absurd (Eq.trans hp1.2 (Eq.symm hp2)) h)
  exact law_tail C0 hS hl

set_option maxHeartbeats 4000000 in
set_option maxRecDepth 100000 in
theorem law_case_5 {p : Program} {l : Launch} {e : Env} {s : State} {m : MethodId} {below : List Frame} {meth : Method} {c : Code} {b : Nat} {xs : Nat → Int32} (C0 : lw_At p s m meth c b 6 xs) {g : GG} {ad1 ad2 : Nat → Nat} (hK : KK g s) (hD1 : Dj ad1 122) (hD2 : Dj ad2 20) (hA1 : ∀ i, i < 122 → (fun q : Nat => s.heap.size ≤ q) (ad1 i)) (hA2 : ∀ i, i < 20 → (fun q : Nat => s.heap.size ≤ q) (ad2 i)) (hne : ∀ i j, i < 122 → j < 20 → ad1 i ≠ ad2 j) {H : Heap} {locs : List Loc} (hP1 : PW g ad1 122 (X0 g ad1) H) (hP2 : PW g ad2 20 (M0 g ad2) H) (hS : va_S (fun q : Nat => s.heap.size ≤ q) s.heap H locs) {ls : Array Slot} (hl : lv_has ls 4 [(0, .ref b), (1, .ref (ad1 0)), (2, .ref (ad2 0)), (3, .int 0)]) : W p l e room_1 s m #[Value.ref b] below meth c H locs 142 12631 (lw_Z below #[Value.ref b] s) (F0 m 455 ls []) := by
  obtain ⟨hx, hb, hr, hml, hown, hts, hX, hbl, hlocks, hgv⟩ := id C0
  have hbA : ¬ (fun q : Nat => s.heap.size ≤ q) b := Nat.not_le.mpr hbl
  have E : Ev p s m #[Value.ref b] c cL_law "EbbWreckLaw" g := ⟨hx, hb, hown, fun w h => hts w (List.mem_filter.mp h).1, hK⟩
  have hQ1 : Hp g ad1 122 (X0 g ad1) (fun q : Nat => s.heap.size ≤ q) s.heap H locs := ⟨hP1, hS⟩
  refine lv_aload_n hx hb dL_law_455 rfl (lv_at hl 1 rfl) ?_
  refine lv_aload_n hx hb dL_law_456 rfl (lv_at hl 0 rfl) ?_
  refine lv_iload_n hx hb dL_law_457 rfl (lv_at hl 3 rfl) ?_
  refine lv_iconst (v := 1) hx hb dL_law_458 (by decide) ?_
  refine lv_iadd hx hb dL_law_459 ?_
  refine sb_at (P := fun z => W _ _ _ _ _ _ _ _ _ _ _ _ _ _ _ (F0 _ _ _ (.int z :: _))) (show (0 : Int32) + 1 = 1 by decide) ?_
  refine va_sld hx hb hX hbl hbA hS (vp_in_lit 1 6 (by decide)) dL_law_460 ?_
  refine lv_aload_n hx hb dL_law_461 rfl (lv_at hl 0 rfl) ?_
  refine lv_iload_n hx hb dL_law_462 rfl (lv_at hl 3 rfl) ?_
  refine lv_iconst (v := 2) hx hb dL_law_463 (by decide) ?_
  refine lv_iadd hx hb dL_law_464 ?_
  refine sb_at (P := fun z => W _ _ _ _ _ _ _ _ _ _ _ _ _ _ _ (F0 _ _ _ (.int z :: _))) (show (0 : Int32) + 2 = 2 by decide) ?_
  refine va_sld hx hb hX hbl hbA hS (vp_in_lit 2 6 (by decide)) dL_law_465 ?_
  refine xcVi E (hs := ⟨hD1, hA1⟩) hQ1 hml hl.1 0 (fX11_thing l g ad1 hD1 (X0 g ad1) (fun i hi => rfl) (xs (1 : Int32).toNatClampNeg) (xs (2 : Int32).toNatClampNeg)) mX11_thing q828 (by decide) rfl rfl rfl ⟨(Nat.le_of_ble_eq_true rfl), (Nat.le_of_ble_eq_true rfl)⟩ ⟨(Nat.le_of_ble_eq_true rfl), (Nat.le_of_ble_eq_true rfl)⟩ (Nat.le_of_ble_eq_true rfl) rfl dL_law_466 (fun r1 S1 H locs hp1 hQ1 hk1 => ?_)
  have hS := hQ1.2
  have hQ2 : Hp g ad2 20 (M0 g ad2) (fun q : Nat => s.heap.size ≤ q) s.heap H locs := ⟨pw_kept hP2 hk1 hne, hQ1.2⟩
  refine lv_aload_n hx hb dL_law_469 rfl (lv_at hl 2 rfl) ?_
  refine lv_aload_n hx hb dL_law_470 rfl (lv_at hl 0 rfl) ?_
  refine lv_iload_n hx hb dL_law_471 rfl (lv_at hl 3 rfl) ?_
  refine lv_iconst (v := 1) hx hb dL_law_472 (by decide) ?_
  refine lv_iadd hx hb dL_law_473 ?_
  refine sb_at (P := fun z => W _ _ _ _ _ _ _ _ _ _ _ _ _ _ _ (F0 _ _ _ (.int z :: _))) (show (0 : Int32) + 1 = 1 by decide) ?_
  refine va_sld hx hb hX hbl hbA hS (vp_in_lit 1 6 (by decide)) dL_law_474 ?_
  refine lv_aload_n hx hb dL_law_475 rfl (lv_at hl 0 rfl) ?_
  refine lv_iload_n hx hb dL_law_476 rfl (lv_at hl 3 rfl) ?_
  refine lv_iconst (v := 2) hx hb dL_law_477 (by decide) ?_
  refine lv_iadd hx hb dL_law_478 ?_
  refine sb_at (P := fun z => W _ _ _ _ _ _ _ _ _ _ _ _ _ _ _ (F0 _ _ _ (.int z :: _))) (show (0 : Int32) + 2 = 2 by decide) ?_
  refine va_sld hx hb hX hbl hbA hS (vp_in_lit 2 6 (by decide)) dL_law_479 ?_
  refine xcVi E (hs := ⟨hD2, hA2⟩) hQ2 hml hl.1 0 (fX12_thing l g ad2 hD2 (M0 g ad2) (fun i hi => rfl) (xs (1 : Int32).toNatClampNeg) (xs (2 : Int32).toNatClampNeg)) mX12_thing q1762 (by decide) rfl rfl rfl ⟨(Nat.le_of_ble_eq_true rfl), (Nat.le_of_ble_eq_true rfl)⟩ ⟨(Nat.le_of_ble_eq_true rfl), (Nat.le_of_ble_eq_true rfl)⟩ (Nat.le_of_ble_eq_true rfl) rfl dL_law_480 (fun r2 S2 H locs hp2 hQ2 hk2 => ?_)
  have hS := hQ2.2
  refine lv_icmp_eq (tgt := 2159) hx hb dL_law_483 (by decide) (fun _ => ?_) (fun h => absurd (Eq.trans hp1.2 (Eq.symm hp2)) h)
  exact law_tail C0 hS hl

set_option maxHeartbeats 4000000 in
set_option maxRecDepth 100000 in
theorem law_case_6 {p : Program} {l : Launch} {e : Env} {s : State} {m : MethodId} {below : List Frame} {meth : Method} {c : Code} {b : Nat} {xs : Nat → Int32} (C0 : lw_At p s m meth c b 6 xs) {g : GG} {ad1 ad2 : Nat → Nat} (hK : KK g s) (hD1 : Dj ad1 122) (hD2 : Dj ad2 20) (hA1 : ∀ i, i < 122 → (fun q : Nat => s.heap.size ≤ q) (ad1 i)) (hA2 : ∀ i, i < 20 → (fun q : Nat => s.heap.size ≤ q) (ad2 i)) (hne : ∀ i j, i < 122 → j < 20 → ad1 i ≠ ad2 j) {H : Heap} {locs : List Loc} (hP1 : PW g ad1 122 (X0 g ad1) H) (hP2 : PW g ad2 20 (M0 g ad2) H) (hS : va_S (fun q : Nat => s.heap.size ≤ q) s.heap H locs) {ls : Array Slot} (hl : lv_has ls 4 [(0, .ref b), (1, .ref (ad1 0)), (2, .ref (ad2 0)), (3, .int 0)]) : W p l e room_1 s m #[Value.ref b] below meth c H locs 142 12631 (lw_Z below #[Value.ref b] s) (F0 m 488 ls []) := by
  obtain ⟨hx, hb, hr, hml, hown, hts, hX, hbl, hlocks, hgv⟩ := id C0
  have hbA : ¬ (fun q : Nat => s.heap.size ≤ q) b := Nat.not_le.mpr hbl
  have E : Ev p s m #[Value.ref b] c cL_law "EbbWreckLaw" g := ⟨hx, hb, hown, fun w h => hts w (List.mem_filter.mp h).1, hK⟩
  have hQ1 : Hp g ad1 122 (X0 g ad1) (fun q : Nat => s.heap.size ≤ q) s.heap H locs := ⟨hP1, hS⟩
  refine lv_aload_n hx hb dL_law_488 rfl (lv_at hl 1 rfl) ?_
  refine lv_aload_n hx hb dL_law_489 rfl (lv_at hl 0 rfl) ?_
  refine lv_iload_n hx hb dL_law_490 rfl (lv_at hl 3 rfl) ?_
  refine lv_iconst (v := 1) hx hb dL_law_491 (by decide) ?_
  refine lv_iadd hx hb dL_law_492 ?_
  refine sb_at (P := fun z => W _ _ _ _ _ _ _ _ _ _ _ _ _ _ _ (F0 _ _ _ (.int z :: _))) (show (0 : Int32) + 1 = 1 by decide) ?_
  refine va_sld hx hb hX hbl hbA hS (vp_in_lit 1 6 (by decide)) dL_law_493 ?_
  refine lv_aload_n hx hb dL_law_494 rfl (lv_at hl 0 rfl) ?_
  refine lv_iload_n hx hb dL_law_495 rfl (lv_at hl 3 rfl) ?_
  refine lv_iconst (v := 2) hx hb dL_law_496 (by decide) ?_
  refine lv_iadd hx hb dL_law_497 ?_
  refine sb_at (P := fun z => W _ _ _ _ _ _ _ _ _ _ _ _ _ _ _ (F0 _ _ _ (.int z :: _))) (show (0 : Int32) + 2 = 2 by decide) ?_
  refine va_sld hx hb hX hbl hbA hS (vp_in_lit 2 6 (by decide)) dL_law_498 ?_
  refine xcVi E (hs := ⟨hD1, hA1⟩) hQ1 hml hl.1 0 (fX11_rule l g ad1 hD1 (X0 g ad1) (fun i hi => rfl) (xs (1 : Int32).toNatClampNeg) (xs (2 : Int32).toNatClampNeg)) mX11_rule q836 (by decide) rfl rfl rfl ⟨(Nat.le_of_ble_eq_true rfl), (Nat.le_of_ble_eq_true rfl)⟩ ⟨(Nat.le_of_ble_eq_true rfl), (Nat.le_of_ble_eq_true rfl)⟩ (Nat.le_of_ble_eq_true rfl) rfl dL_law_499 (fun r1 S1 H locs hp1 hQ1 hk1 => ?_)
  have hS := hQ1.2
  have hQ2 : Hp g ad2 20 (M0 g ad2) (fun q : Nat => s.heap.size ≤ q) s.heap H locs := ⟨pw_kept hP2 hk1 hne, hQ1.2⟩
  refine lv_aload_n hx hb dL_law_502 rfl (lv_at hl 2 rfl) ?_
  refine lv_aload_n hx hb dL_law_503 rfl (lv_at hl 0 rfl) ?_
  refine lv_iload_n hx hb dL_law_504 rfl (lv_at hl 3 rfl) ?_
  refine lv_iconst (v := 1) hx hb dL_law_505 (by decide) ?_
  refine lv_iadd hx hb dL_law_506 ?_
  refine sb_at (P := fun z => W _ _ _ _ _ _ _ _ _ _ _ _ _ _ _ (F0 _ _ _ (.int z :: _))) (show (0 : Int32) + 1 = 1 by decide) ?_
  refine va_sld hx hb hX hbl hbA hS (vp_in_lit 1 6 (by decide)) dL_law_507 ?_
  refine lv_aload_n hx hb dL_law_508 rfl (lv_at hl 0 rfl) ?_
  refine lv_iload_n hx hb dL_law_509 rfl (lv_at hl 3 rfl) ?_
  refine lv_iconst (v := 2) hx hb dL_law_510 (by decide) ?_
  refine lv_iadd hx hb dL_law_511 ?_
  refine sb_at (P := fun z => W _ _ _ _ _ _ _ _ _ _ _ _ _ _ _ (F0 _ _ _ (.int z :: _))) (show (0 : Int32) + 2 = 2 by decide) ?_
  refine va_sld hx hb hX hbl hbA hS (vp_in_lit 2 6 (by decide)) dL_law_512 ?_
  refine xcVi E (hs := ⟨hD2, hA2⟩) hQ2 hml hl.1 0 (fX12_rule l g ad2 hD2 (M0 g ad2) (fun i hi => rfl) (xs (1 : Int32).toNatClampNeg) (xs (2 : Int32).toNatClampNeg)) mX12_rule q1770 (by decide) rfl rfl rfl ⟨(Nat.le_of_ble_eq_true rfl), (Nat.le_of_ble_eq_true rfl)⟩ ⟨(Nat.le_of_ble_eq_true rfl), (Nat.le_of_ble_eq_true rfl)⟩ (Nat.le_of_ble_eq_true rfl) rfl dL_law_513 (fun r2 S2 H locs hp2 hQ2 hk2 => ?_)
  have hS := hQ2.2
  refine lv_icmp_eq (tgt := 2159) hx hb dL_law_516 (by decide) (fun _ => ?_) (fun h => absurd (Eq.trans hp1.2 (Eq.symm hp2)) h)
  exact law_tail C0 hS hl

set_option maxHeartbeats 4000000 in
set_option maxRecDepth 100000 in
theorem law_case_7 {p : Program} {l : Launch} {e : Env} {s : State} {m : MethodId} {below : List Frame} {meth : Method} {c : Code} {b : Nat} {xs : Nat → Int32} (C0 : lw_At p s m meth c b 6 xs) {g : GG} {ad1 ad2 : Nat → Nat} (hK : KK g s) (hD1 : Dj ad1 122) (hD2 : Dj ad2 20) (hA1 : ∀ i, i < 122 → (fun q : Nat => s.heap.size ≤ q) (ad1 i)) (hA2 : ∀ i, i < 20 → (fun q : Nat => s.heap.size ≤ q) (ad2 i)) (hne : ∀ i j, i < 122 → j < 20 → ad1 i ≠ ad2 j) {H : Heap} {locs : List Loc} (hP1 : PW g ad1 122 (X0 g ad1) H) (hP2 : PW g ad2 20 (M0 g ad2) H) (hS : va_S (fun q : Nat => s.heap.size ≤ q) s.heap H locs) {ls : Array Slot} (hl : lv_has ls 4 [(0, .ref b), (1, .ref (ad1 0)), (2, .ref (ad2 0)), (3, .int 0)]) : W p l e room_1 s m #[Value.ref b] below meth c H locs 142 12631 (lw_Z below #[Value.ref b] s) (F0 m 521 ls []) := by
  obtain ⟨hx, hb, hr, hml, hown, hts, hX, hbl, hlocks, hgv⟩ := id C0
  have hbA : ¬ (fun q : Nat => s.heap.size ≤ q) b := Nat.not_le.mpr hbl
  have E : Ev p s m #[Value.ref b] c cL_law "EbbWreckLaw" g := ⟨hx, hb, hown, fun w h => hts w (List.mem_filter.mp h).1, hK⟩
  have hQ1 : Hp g ad1 122 (X0 g ad1) (fun q : Nat => s.heap.size ≤ q) s.heap H locs := ⟨hP1, hS⟩
  refine lv_aload_n hx hb dL_law_521 rfl (lv_at hl 1 rfl) ?_
  refine lv_aload_n hx hb dL_law_522 rfl (lv_at hl 0 rfl) ?_
  refine lv_iload_n hx hb dL_law_523 rfl (lv_at hl 3 rfl) ?_
  refine lv_iconst (v := 1) hx hb dL_law_524 (by decide) ?_
  refine lv_iadd hx hb dL_law_525 ?_
  refine sb_at (P := fun z => W _ _ _ _ _ _ _ _ _ _ _ _ _ _ _ (F0 _ _ _ (.int z :: _))) (show (0 : Int32) + 1 = 1 by decide) ?_
  refine va_sld hx hb hX hbl hbA hS (vp_in_lit 1 6 (by decide)) dL_law_526 ?_
  refine xcVi E (hs := ⟨hD1, hA1⟩) hQ1 hml hl.1 0 (fX11_sitter l g ad1 hD1 (X0 g ad1) (fun i hi => rfl) (xs (1 : Int32).toNatClampNeg)) mX11_sitter q844 (by decide) rfl rfl rfl ⟨(Nat.le_of_ble_eq_true rfl), (Nat.le_of_ble_eq_true rfl)⟩ ⟨(Nat.le_of_ble_eq_true rfl), (Nat.le_of_ble_eq_true rfl)⟩ (Nat.le_of_ble_eq_true rfl) rfl dL_law_527 (fun r1 S1 H locs hp1 hQ1 hk1 => ?_)
  have hS := hQ1.2
  have hQ2 : Hp g ad2 20 (M0 g ad2) (fun q : Nat => s.heap.size ≤ q) s.heap H locs := ⟨pw_kept hP2 hk1 hne, hQ1.2⟩
  refine lv_aload_n hx hb dL_law_530 rfl (lv_at hl 2 rfl) ?_
  refine lv_aload_n hx hb dL_law_531 rfl (lv_at hl 0 rfl) ?_
  refine lv_iload_n hx hb dL_law_532 rfl (lv_at hl 3 rfl) ?_
  refine lv_iconst (v := 1) hx hb dL_law_533 (by decide) ?_
  refine lv_iadd hx hb dL_law_534 ?_
  refine sb_at (P := fun z => W _ _ _ _ _ _ _ _ _ _ _ _ _ _ _ (F0 _ _ _ (.int z :: _))) (show (0 : Int32) + 1 = 1 by decide) ?_
  refine va_sld hx hb hX hbl hbA hS (vp_in_lit 1 6 (by decide)) dL_law_535 ?_
  refine xcVi E (hs := ⟨hD2, hA2⟩) hQ2 hml hl.1 0 (fX12_sitter l g ad2 hD2 (M0 g ad2) (fun i hi => rfl) (xs (1 : Int32).toNatClampNeg)) mX12_sitter q1812 (by decide) rfl rfl rfl ⟨(Nat.le_of_ble_eq_true rfl), (Nat.le_of_ble_eq_true rfl)⟩ ⟨(Nat.le_of_ble_eq_true rfl), (Nat.le_of_ble_eq_true rfl)⟩ (Nat.le_of_ble_eq_true rfl) rfl dL_law_536 (fun r2 S2 H locs hp2 hQ2 hk2 => ?_)
  have hS := hQ2.2
  refine lv_icmp_eq (tgt := 2159) hx hb dL_law_539 (by decide) (fun _ => ?_) (fun h => absurd (Eq.trans hp1.2 (Eq.symm hp2)) h)
  exact law_tail C0 hS hl

set_option maxHeartbeats 4000000 in
set_option maxRecDepth 100000 in
theorem law_case_8 {p : Program} {l : Launch} {e : Env} {s : State} {m : MethodId} {below : List Frame} {meth : Method} {c : Code} {b : Nat} {xs : Nat → Int32} (C0 : lw_At p s m meth c b 6 xs) {g : GG} {ad1 ad2 : Nat → Nat} (hK : KK g s) (hD1 : Dj ad1 122) (hD2 : Dj ad2 20) (hA1 : ∀ i, i < 122 → (fun q : Nat => s.heap.size ≤ q) (ad1 i)) (hA2 : ∀ i, i < 20 → (fun q : Nat => s.heap.size ≤ q) (ad2 i)) (hne : ∀ i j, i < 122 → j < 20 → ad1 i ≠ ad2 j) {H : Heap} {locs : List Loc} (hP1 : PW g ad1 122 (X0 g ad1) H) (hP2 : PW g ad2 20 (M0 g ad2) H) (hS : va_S (fun q : Nat => s.heap.size ≤ q) s.heap H locs) {ls : Array Slot} (hl : lv_has ls 4 [(0, .ref b), (1, .ref (ad1 0)), (2, .ref (ad2 0)), (3, .int 0)]) : W p l e room_1 s m #[Value.ref b] below meth c H locs 142 12631 (lw_Z below #[Value.ref b] s) (F0 m 544 ls []) := by
  obtain ⟨hx, hb, hr, hml, hown, hts, hX, hbl, hlocks, hgv⟩ := id C0
  have hbA : ¬ (fun q : Nat => s.heap.size ≤ q) b := Nat.not_le.mpr hbl
  have E : Ev p s m #[Value.ref b] c cL_law "EbbWreckLaw" g := ⟨hx, hb, hown, fun w h => hts w (List.mem_filter.mp h).1, hK⟩
  have hQ1 : Hp g ad1 122 (X0 g ad1) (fun q : Nat => s.heap.size ≤ q) s.heap H locs := ⟨hP1, hS⟩
  refine lv_aload_n hx hb dL_law_544 rfl (lv_at hl 1 rfl) ?_
  refine lv_aload_n hx hb dL_law_545 rfl (lv_at hl 0 rfl) ?_
  refine lv_iload_n hx hb dL_law_546 rfl (lv_at hl 3 rfl) ?_
  refine lv_iconst (v := 1) hx hb dL_law_547 (by decide) ?_
  refine lv_iadd hx hb dL_law_548 ?_
  refine sb_at (P := fun z => W _ _ _ _ _ _ _ _ _ _ _ _ _ _ _ (F0 _ _ _ (.int z :: _))) (show (0 : Int32) + 1 = 1 by decide) ?_
  refine va_sld hx hb hX hbl hbA hS (vp_in_lit 1 6 (by decide)) dL_law_549 ?_
  refine xcVi E (hs := ⟨hD1, hA1⟩) hQ1 hml hl.1 0 (fX11_phase l g ad1 hD1 (X0 g ad1) (fun i hi => rfl) (xs (1 : Int32).toNatClampNeg)) mX11_phase q870 (by decide) rfl rfl rfl ⟨(Nat.le_of_ble_eq_true rfl), (Nat.le_of_ble_eq_true rfl)⟩ ⟨(Nat.le_of_ble_eq_true rfl), (Nat.le_of_ble_eq_true rfl)⟩ (Nat.le_of_ble_eq_true rfl) rfl dL_law_550 (fun r1 S1 H locs hp1 hQ1 hk1 => ?_)
  have hS := hQ1.2
  have hQ2 : Hp g ad2 20 (M0 g ad2) (fun q : Nat => s.heap.size ≤ q) s.heap H locs := ⟨pw_kept hP2 hk1 hne, hQ1.2⟩
  refine lv_aload_n hx hb dL_law_553 rfl (lv_at hl 2 rfl) ?_
  refine lv_aload_n hx hb dL_law_554 rfl (lv_at hl 0 rfl) ?_
  refine lv_iload_n hx hb dL_law_555 rfl (lv_at hl 3 rfl) ?_
  refine lv_iconst (v := 1) hx hb dL_law_556 (by decide) ?_
  refine lv_iadd hx hb dL_law_557 ?_
  refine sb_at (P := fun z => W _ _ _ _ _ _ _ _ _ _ _ _ _ _ _ (F0 _ _ _ (.int z :: _))) (show (0 : Int32) + 1 = 1 by decide) ?_
  refine va_sld hx hb hX hbl hbA hS (vp_in_lit 1 6 (by decide)) dL_law_558 ?_
  refine xcVi E (hs := ⟨hD2, hA2⟩) hQ2 hml hl.1 0 (fX12_phase l g ad2 hD2 (M0 g ad2) (fun i hi => rfl) (xs (1 : Int32).toNatClampNeg)) mX12_phase q1778 (by decide) rfl rfl rfl ⟨(Nat.le_of_ble_eq_true rfl), (Nat.le_of_ble_eq_true rfl)⟩ ⟨(Nat.le_of_ble_eq_true rfl), (Nat.le_of_ble_eq_true rfl)⟩ (Nat.le_of_ble_eq_true rfl) rfl dL_law_559 (fun r2 S2 H locs hp2 hQ2 hk2 => ?_)
  have hS := hQ2.2
  refine lv_icmp_eq (tgt := 2159) hx hb dL_law_562 (by decide) (fun _ => ?_) (fun h => absurd (Eq.trans hp1.2 (Eq.symm hp2)) h)
  exact law_tail C0 hS hl

set_option maxHeartbeats 4000000 in
set_option maxRecDepth 100000 in
theorem law_case_9 {p : Program} {l : Launch} {e : Env} {s : State} {m : MethodId} {below : List Frame} {meth : Method} {c : Code} {b : Nat} {xs : Nat → Int32} (C0 : lw_At p s m meth c b 6 xs) {g : GG} {ad1 ad2 : Nat → Nat} (hK : KK g s) (hD1 : Dj ad1 122) (hD2 : Dj ad2 20) (hA1 : ∀ i, i < 122 → (fun q : Nat => s.heap.size ≤ q) (ad1 i)) (hA2 : ∀ i, i < 20 → (fun q : Nat => s.heap.size ≤ q) (ad2 i)) (hne : ∀ i j, i < 122 → j < 20 → ad1 i ≠ ad2 j) {H : Heap} {locs : List Loc} (hP1 : PW g ad1 122 (X0 g ad1) H) (hP2 : PW g ad2 20 (M0 g ad2) H) (hS : va_S (fun q : Nat => s.heap.size ≤ q) s.heap H locs) {ls : Array Slot} (hl : lv_has ls 4 [(0, .ref b), (1, .ref (ad1 0)), (2, .ref (ad2 0)), (3, .int 0)]) : W p l e room_1 s m #[Value.ref b] below meth c H locs 142 12631 (lw_Z below #[Value.ref b] s) (F0 m 567 ls []) := by
  obtain ⟨hx, hb, hr, hml, hown, hts, hX, hbl, hlocks, hgv⟩ := id C0
  have hbA : ¬ (fun q : Nat => s.heap.size ≤ q) b := Nat.not_le.mpr hbl
  have E : Ev p s m #[Value.ref b] c cL_law "EbbWreckLaw" g := ⟨hx, hb, hown, fun w h => hts w (List.mem_filter.mp h).1, hK⟩
  have hQ1 : Hp g ad1 122 (X0 g ad1) (fun q : Nat => s.heap.size ≤ q) s.heap H locs := ⟨hP1, hS⟩
  refine lv_aload_n hx hb dL_law_567 rfl (lv_at hl 1 rfl) ?_
  refine lv_aload_n hx hb dL_law_568 rfl (lv_at hl 0 rfl) ?_
  refine lv_iload_n hx hb dL_law_569 rfl (lv_at hl 3 rfl) ?_
  refine lv_iconst (v := 1) hx hb dL_law_570 (by decide) ?_
  refine lv_iadd hx hb dL_law_571 ?_
  refine sb_at (P := fun z => W _ _ _ _ _ _ _ _ _ _ _ _ _ _ _ (F0 _ _ _ (.int z :: _))) (show (0 : Int32) + 1 = 1 by decide) ?_
  refine va_sld hx hb hX hbl hbA hS (vp_in_lit 1 6 (by decide)) dL_law_572 ?_
  refine lv_aload_n hx hb dL_law_573 rfl (lv_at hl 0 rfl) ?_
  refine lv_iload_n hx hb dL_law_574 rfl (lv_at hl 3 rfl) ?_
  refine lv_iconst (v := 2) hx hb dL_law_575 (by decide) ?_
  refine lv_iadd hx hb dL_law_576 ?_
  refine sb_at (P := fun z => W _ _ _ _ _ _ _ _ _ _ _ _ _ _ _ (F0 _ _ _ (.int z :: _))) (show (0 : Int32) + 2 = 2 by decide) ?_
  refine va_sld hx hb hX hbl hbA hS (vp_in_lit 2 6 (by decide)) dL_law_577 ?_
  refine xcVi E (hs := ⟨hD1, hA1⟩) hQ1 hml hl.1 0 (fX11_next l g ad1 hD1 (X0 g ad1) (fun i hi => rfl) (xs (1 : Int32).toNatClampNeg) (xs (2 : Int32).toNatClampNeg)) mX11_next q887 (by decide) rfl rfl rfl ⟨(Nat.le_of_ble_eq_true rfl), (Nat.le_of_ble_eq_true rfl)⟩ ⟨(Nat.le_of_ble_eq_true rfl), (Nat.le_of_ble_eq_true rfl)⟩ (Nat.le_of_ble_eq_true rfl) rfl dL_law_578 (fun r1 S1 H locs hp1 hQ1 hk1 => ?_)
  have hS := hQ1.2
  have hQ2 : Hp g ad2 20 (M0 g ad2) (fun q : Nat => s.heap.size ≤ q) s.heap H locs := ⟨pw_kept hP2 hk1 hne, hQ1.2⟩
  refine lv_aload_n hx hb dL_law_581 rfl (lv_at hl 2 rfl) ?_
  refine lv_aload_n hx hb dL_law_582 rfl (lv_at hl 0 rfl) ?_
  refine lv_iload_n hx hb dL_law_583 rfl (lv_at hl 3 rfl) ?_
  refine lv_iconst (v := 1) hx hb dL_law_584 (by decide) ?_
  refine lv_iadd hx hb dL_law_585 ?_
  refine sb_at (P := fun z => W _ _ _ _ _ _ _ _ _ _ _ _ _ _ _ (F0 _ _ _ (.int z :: _))) (show (0 : Int32) + 1 = 1 by decide) ?_
  refine va_sld hx hb hX hbl hbA hS (vp_in_lit 1 6 (by decide)) dL_law_586 ?_
  refine lv_aload_n hx hb dL_law_587 rfl (lv_at hl 0 rfl) ?_
  refine lv_iload_n hx hb dL_law_588 rfl (lv_at hl 3 rfl) ?_
  refine lv_iconst (v := 2) hx hb dL_law_589 (by decide) ?_
  refine lv_iadd hx hb dL_law_590 ?_
  refine sb_at (P := fun z => W _ _ _ _ _ _ _ _ _ _ _ _ _ _ _ (F0 _ _ _ (.int z :: _))) (show (0 : Int32) + 2 = 2 by decide) ?_
  refine va_sld hx hb hX hbl hbA hS (vp_in_lit 2 6 (by decide)) dL_law_591 ?_
  refine xcVi E (hs := ⟨hD2, hA2⟩) hQ2 hml hl.1 0 (fX12_next_ l g ad2 hD2 (M0 g ad2) (fun i hi => rfl) (xs (1 : Int32).toNatClampNeg) (xs (2 : Int32).toNatClampNeg)) mX12_next_ q1795 (by decide) rfl rfl rfl ⟨(Nat.le_of_ble_eq_true rfl), (Nat.le_of_ble_eq_true rfl)⟩ ⟨(Nat.le_of_ble_eq_true rfl), (Nat.le_of_ble_eq_true rfl)⟩ (Nat.le_of_ble_eq_true rfl) rfl dL_law_592 (fun r2 S2 H locs hp2 hQ2 hk2 => ?_)
  have hS := hQ2.2
  refine lv_icmp_eq (tgt := 2159) hx hb dL_law_595 (by decide) (fun _ => ?_) (fun h => absurd (Eq.trans hp1.2 (Eq.symm hp2)) h)
  exact law_tail C0 hS hl

set_option maxHeartbeats 4000000 in
set_option maxRecDepth 100000 in
theorem law_case_10 {p : Program} {l : Launch} {e : Env} {s : State} {m : MethodId} {below : List Frame} {meth : Method} {c : Code} {b : Nat} {xs : Nat → Int32} (C0 : lw_At p s m meth c b 6 xs) {g : GG} {ad1 ad2 : Nat → Nat} (hK : KK g s) (hD1 : Dj ad1 122) (hD2 : Dj ad2 20) (hA1 : ∀ i, i < 122 → (fun q : Nat => s.heap.size ≤ q) (ad1 i)) (hA2 : ∀ i, i < 20 → (fun q : Nat => s.heap.size ≤ q) (ad2 i)) (hne : ∀ i j, i < 122 → j < 20 → ad1 i ≠ ad2 j) {H : Heap} {locs : List Loc} (hP1 : PW g ad1 122 (X0 g ad1) H) (hP2 : PW g ad2 20 (M0 g ad2) H) (hS : va_S (fun q : Nat => s.heap.size ≤ q) s.heap H locs) {ls : Array Slot} (hl : lv_has ls 4 [(0, .ref b), (1, .ref (ad1 0)), (2, .ref (ad2 0)), (3, .int 0)]) : W p l e room_1 s m #[Value.ref b] below meth c H locs 142 12631 (lw_Z below #[Value.ref b] s) (F0 m 600 ls []) := by
  obtain ⟨hx, hb, hr, hml, hown, hts, hX, hbl, hlocks, hgv⟩ := id C0
  have hbA : ¬ (fun q : Nat => s.heap.size ≤ q) b := Nat.not_le.mpr hbl
  have E : Ev p s m #[Value.ref b] c cL_law "EbbWreckLaw" g := ⟨hx, hb, hown, fun w h => hts w (List.mem_filter.mp h).1, hK⟩
  have hQ1 : Hp g ad1 122 (X0 g ad1) (fun q : Nat => s.heap.size ≤ q) s.heap H locs := ⟨hP1, hS⟩
  refine lv_aload_n hx hb dL_law_600 rfl (lv_at hl 1 rfl) ?_
  refine lv_aload_n hx hb dL_law_601 rfl (lv_at hl 0 rfl) ?_
  refine lv_iload_n hx hb dL_law_602 rfl (lv_at hl 3 rfl) ?_
  refine lv_iconst (v := 1) hx hb dL_law_603 (by decide) ?_
  refine lv_iadd hx hb dL_law_604 ?_
  refine sb_at (P := fun z => W _ _ _ _ _ _ _ _ _ _ _ _ _ _ _ (F0 _ _ _ (.int z :: _))) (show (0 : Int32) + 1 = 1 by decide) ?_
  refine va_sld hx hb hX hbl hbA hS (vp_in_lit 1 6 (by decide)) dL_law_605 ?_
  refine lv_aload_n hx hb dL_law_606 rfl (lv_at hl 0 rfl) ?_
  refine lv_iload_n hx hb dL_law_607 rfl (lv_at hl 3 rfl) ?_
  refine lv_iconst (v := 2) hx hb dL_law_608 (by decide) ?_
  refine lv_iadd hx hb dL_law_609 ?_
  refine sb_at (P := fun z => W _ _ _ _ _ _ _ _ _ _ _ _ _ _ _ (F0 _ _ _ (.int z :: _))) (show (0 : Int32) + 2 = 2 by decide) ?_
  refine va_sld hx hb hX hbl hbA hS (vp_in_lit 2 6 (by decide)) dL_law_610 ?_
  refine xcVi E (hs := ⟨hD1, hA1⟩) hQ1 hml hl.1 0 (fX11_drifts l g ad1 hD1 (X0 g ad1) (fun i hi => rfl) (xs (1 : Int32).toNatClampNeg) (xs (2 : Int32).toNatClampNeg)) mX11_drifts q918 (by decide) rfl rfl rfl ⟨(Nat.le_of_ble_eq_true rfl), (Nat.le_of_ble_eq_true rfl)⟩ ⟨(Nat.le_of_ble_eq_true rfl), (Nat.le_of_ble_eq_true rfl)⟩ (Nat.le_of_ble_eq_true rfl) rfl dL_law_611 (fun r1 S1 H locs hp1 hQ1 hk1 => ?_)
  have hS := hQ1.2
  have hQ2 : Hp g ad2 20 (M0 g ad2) (fun q : Nat => s.heap.size ≤ q) s.heap H locs := ⟨pw_kept hP2 hk1 hne, hQ1.2⟩
  refine lv_aload_n hx hb dL_law_614 rfl (lv_at hl 2 rfl) ?_
  refine lv_aload_n hx hb dL_law_615 rfl (lv_at hl 0 rfl) ?_
  refine lv_iload_n hx hb dL_law_616 rfl (lv_at hl 3 rfl) ?_
  refine lv_iconst (v := 1) hx hb dL_law_617 (by decide) ?_
  refine lv_iadd hx hb dL_law_618 ?_
  refine sb_at (P := fun z => W _ _ _ _ _ _ _ _ _ _ _ _ _ _ _ (F0 _ _ _ (.int z :: _))) (show (0 : Int32) + 1 = 1 by decide) ?_
  refine va_sld hx hb hX hbl hbA hS (vp_in_lit 1 6 (by decide)) dL_law_619 ?_
  refine lv_aload_n hx hb dL_law_620 rfl (lv_at hl 0 rfl) ?_
  refine lv_iload_n hx hb dL_law_621 rfl (lv_at hl 3 rfl) ?_
  refine lv_iconst (v := 2) hx hb dL_law_622 (by decide) ?_
  refine lv_iadd hx hb dL_law_623 ?_
  refine sb_at (P := fun z => W _ _ _ _ _ _ _ _ _ _ _ _ _ _ _ (F0 _ _ _ (.int z :: _))) (show (0 : Int32) + 2 = 2 by decide) ?_
  refine va_sld hx hb hX hbl hbA hS (vp_in_lit 2 6 (by decide)) dL_law_624 ?_
  refine xcVi E (hs := ⟨hD2, hA2⟩) hQ2 hml hl.1 0 (fX12_drifts l g ad2 hD2 (M0 g ad2) (fun i hi => rfl) (xs (1 : Int32).toNatClampNeg) (xs (2 : Int32).toNatClampNeg)) mX12_drifts q1800 (by decide) rfl rfl rfl ⟨(Nat.le_of_ble_eq_true rfl), (Nat.le_of_ble_eq_true rfl)⟩ ⟨(Nat.le_of_ble_eq_true rfl), (Nat.le_of_ble_eq_true rfl)⟩ (Nat.le_of_ble_eq_true rfl) rfl dL_law_625 (fun r2 S2 H locs hp2 hQ2 hk2 => ?_)
  have hS := hQ2.2
  refine lv_icmp_eq (tgt := 2159) hx hb dL_law_628 (by decide) (fun _ => ?_) (fun h => absurd (Eq.trans hp1.2 (Eq.symm hp2)) h)
  exact law_tail C0 hS hl

set_option maxHeartbeats 4000000 in
set_option maxRecDepth 100000 in
theorem law_case_11 {p : Program} {l : Launch} {e : Env} {s : State} {m : MethodId} {below : List Frame} {meth : Method} {c : Code} {b : Nat} {xs : Nat → Int32} (C0 : lw_At p s m meth c b 6 xs) {g : GG} {ad1 ad2 : Nat → Nat} (hK : KK g s) (hD1 : Dj ad1 122) (hD2 : Dj ad2 20) (hA1 : ∀ i, i < 122 → (fun q : Nat => s.heap.size ≤ q) (ad1 i)) (hA2 : ∀ i, i < 20 → (fun q : Nat => s.heap.size ≤ q) (ad2 i)) (hne : ∀ i j, i < 122 → j < 20 → ad1 i ≠ ad2 j) {H : Heap} {locs : List Loc} (hP1 : PW g ad1 122 (X0 g ad1) H) (hP2 : PW g ad2 20 (M0 g ad2) H) (hS : va_S (fun q : Nat => s.heap.size ≤ q) s.heap H locs) {ls : Array Slot} (hl : lv_has ls 4 [(0, .ref b), (1, .ref (ad1 0)), (2, .ref (ad2 0)), (3, .int 0)]) : W p l e room_1 s m #[Value.ref b] below meth c H locs 142 12631 (lw_Z below #[Value.ref b] s) (F0 m 633 ls []) := by
  obtain ⟨hx, hb, hr, hml, hown, hts, hX, hbl, hlocks, hgv⟩ := id C0
  have hbA : ¬ (fun q : Nat => s.heap.size ≤ q) b := Nat.not_le.mpr hbl
  have E : Ev p s m #[Value.ref b] c cL_law "EbbWreckLaw" g := ⟨hx, hb, hown, fun w h => hts w (List.mem_filter.mp h).1, hK⟩
  have hQ1 : Hp g ad1 122 (X0 g ad1) (fun q : Nat => s.heap.size ≤ q) s.heap H locs := ⟨hP1, hS⟩
  refine lv_aload_n hx hb dL_law_633 rfl (lv_at hl 1 rfl) ?_
  refine lv_aload_n hx hb dL_law_634 rfl (lv_at hl 0 rfl) ?_
  refine lv_iload_n hx hb dL_law_635 rfl (lv_at hl 3 rfl) ?_
  refine lv_iconst (v := 1) hx hb dL_law_636 (by decide) ?_
  refine lv_iadd hx hb dL_law_637 ?_
  refine sb_at (P := fun z => W _ _ _ _ _ _ _ _ _ _ _ _ _ _ _ (F0 _ _ _ (.int z :: _))) (show (0 : Int32) + 1 = 1 by decide) ?_
  refine va_sld hx hb hX hbl hbA hS (vp_in_lit 1 6 (by decide)) dL_law_638 ?_
  refine lv_aload_n hx hb dL_law_639 rfl (lv_at hl 0 rfl) ?_
  refine lv_iload_n hx hb dL_law_640 rfl (lv_at hl 3 rfl) ?_
  refine lv_iconst (v := 2) hx hb dL_law_641 (by decide) ?_
  refine lv_iadd hx hb dL_law_642 ?_
  refine sb_at (P := fun z => W _ _ _ _ _ _ _ _ _ _ _ _ _ _ _ (F0 _ _ _ (.int z :: _))) (show (0 : Int32) + 2 = 2 by decide) ?_
  refine va_sld hx hb hX hbl hbA hS (vp_in_lit 2 6 (by decide)) dL_law_643 ?_
  refine xcVi E (hs := ⟨hD1, hA1⟩) hQ1 hml hl.1 0 (fX11_at l g ad1 hD1 (X0 g ad1) (fun i hi => rfl) (xs (1 : Int32).toNatClampNeg) (xs (2 : Int32).toNatClampNeg)) mX11_at q923 (by decide) rfl rfl rfl ⟨(Nat.le_of_ble_eq_true rfl), (Nat.le_of_ble_eq_true rfl)⟩ ⟨(Nat.le_of_ble_eq_true rfl), (Nat.le_of_ble_eq_true rfl)⟩ (Nat.le_of_ble_eq_true rfl) rfl dL_law_644 (fun r1 S1 H locs hp1 hQ1 hk1 => ?_)
  have hS := hQ1.2
  have hQ2 : Hp g ad2 20 (M0 g ad2) (fun q : Nat => s.heap.size ≤ q) s.heap H locs := ⟨pw_kept hP2 hk1 hne, hQ1.2⟩
  refine lv_aload_n hx hb dL_law_647 rfl (lv_at hl 2 rfl) ?_
  refine lv_aload_n hx hb dL_law_648 rfl (lv_at hl 0 rfl) ?_
  refine lv_iload_n hx hb dL_law_649 rfl (lv_at hl 3 rfl) ?_
  refine lv_iconst (v := 1) hx hb dL_law_650 (by decide) ?_
  refine lv_iadd hx hb dL_law_651 ?_
  refine sb_at (P := fun z => W _ _ _ _ _ _ _ _ _ _ _ _ _ _ _ (F0 _ _ _ (.int z :: _))) (show (0 : Int32) + 1 = 1 by decide) ?_
  refine va_sld hx hb hX hbl hbA hS (vp_in_lit 1 6 (by decide)) dL_law_652 ?_
  refine lv_aload_n hx hb dL_law_653 rfl (lv_at hl 0 rfl) ?_
  refine lv_iload_n hx hb dL_law_654 rfl (lv_at hl 3 rfl) ?_
  refine lv_iconst (v := 2) hx hb dL_law_655 (by decide) ?_
  refine lv_iadd hx hb dL_law_656 ?_
  refine sb_at (P := fun z => W _ _ _ _ _ _ _ _ _ _ _ _ _ _ _ (F0 _ _ _ (.int z :: _))) (show (0 : Int32) + 2 = 2 by decide) ?_
  refine va_sld hx hb hX hbl hbA hS (vp_in_lit 2 6 (by decide)) dL_law_657 ?_
  refine xcVi E (hs := ⟨hD2, hA2⟩) hQ2 hml hl.1 0 (fX12_at l g ad2 hD2 (M0 g ad2) (fun i hi => rfl) (xs (1 : Int32).toNatClampNeg) (xs (2 : Int32).toNatClampNeg)) mX12_at q1824 (by decide) rfl rfl rfl ⟨(Nat.le_of_ble_eq_true rfl), (Nat.le_of_ble_eq_true rfl)⟩ ⟨(Nat.le_of_ble_eq_true rfl), (Nat.le_of_ble_eq_true rfl)⟩ (Nat.le_of_ble_eq_true rfl) rfl dL_law_658 (fun r2 S2 H locs hp2 hQ2 hk2 => ?_)
  have hS := hQ2.2
  refine lv_icmp_eq (tgt := 2159) hx hb dL_law_661 (by decide) (fun _ => ?_) (fun h => absurd (Eq.trans hp1.2 (Eq.symm hp2)) h)
  exact law_tail C0 hS hl

set_option maxHeartbeats 4000000 in
set_option maxRecDepth 100000 in
theorem law_case_12 {p : Program} {l : Launch} {e : Env} {s : State} {m : MethodId} {below : List Frame} {meth : Method} {c : Code} {b : Nat} {xs : Nat → Int32} (C0 : lw_At p s m meth c b 6 xs) {g : GG} {ad1 ad2 : Nat → Nat} (hK : KK g s) (hD1 : Dj ad1 122) (hD2 : Dj ad2 20) (hA1 : ∀ i, i < 122 → (fun q : Nat => s.heap.size ≤ q) (ad1 i)) (hA2 : ∀ i, i < 20 → (fun q : Nat => s.heap.size ≤ q) (ad2 i)) (hne : ∀ i j, i < 122 → j < 20 → ad1 i ≠ ad2 j) {H : Heap} {locs : List Loc} (hP1 : PW g ad1 122 (X0 g ad1) H) (hP2 : PW g ad2 20 (M0 g ad2) H) (hS : va_S (fun q : Nat => s.heap.size ≤ q) s.heap H locs) {ls : Array Slot} (hl : lv_has ls 4 [(0, .ref b), (1, .ref (ad1 0)), (2, .ref (ad2 0)), (3, .int 0)]) : W p l e room_1 s m #[Value.ref b] below meth c H locs 142 12631 (lw_Z below #[Value.ref b] s) (F0 m 666 ls []) := by
  obtain ⟨hx, hb, hr, hml, hown, hts, hX, hbl, hlocks, hgv⟩ := id C0
  have hbA : ¬ (fun q : Nat => s.heap.size ≤ q) b := Nat.not_le.mpr hbl
  have E : Ev p s m #[Value.ref b] c cL_law "EbbWreckLaw" g := ⟨hx, hb, hown, fun w h => hts w (List.mem_filter.mp h).1, hK⟩
  have hQ1 : Hp g ad1 122 (X0 g ad1) (fun q : Nat => s.heap.size ≤ q) s.heap H locs := ⟨hP1, hS⟩
  refine lv_aload_n hx hb dL_law_666 rfl (lv_at hl 1 rfl) ?_
  refine lv_aload_n hx hb dL_law_667 rfl (lv_at hl 0 rfl) ?_
  refine lv_iload_n hx hb dL_law_668 rfl (lv_at hl 3 rfl) ?_
  refine lv_iconst (v := 1) hx hb dL_law_669 (by decide) ?_
  refine lv_iadd hx hb dL_law_670 ?_
  refine sb_at (P := fun z => W _ _ _ _ _ _ _ _ _ _ _ _ _ _ _ (F0 _ _ _ (.int z :: _))) (show (0 : Int32) + 1 = 1 by decide) ?_
  refine va_sld hx hb hX hbl hbA hS (vp_in_lit 1 6 (by decide)) dL_law_671 ?_
  refine xcVi E (hs := ⟨hD1, hA1⟩) hQ1 hml hl.1 0 (fX11_comes l g ad1 hD1 (X0 g ad1) (fun i hi => rfl) (xs (1 : Int32).toNatClampNeg)) mX11_comes q931 (by decide) rfl rfl rfl ⟨(Nat.le_of_ble_eq_true rfl), (Nat.le_of_ble_eq_true rfl)⟩ ⟨(Nat.le_of_ble_eq_true rfl), (Nat.le_of_ble_eq_true rfl)⟩ (Nat.le_of_ble_eq_true rfl) rfl dL_law_672 (fun r1 S1 H locs hp1 hQ1 hk1 => ?_)
  have hS := hQ1.2
  have hQ2 : Hp g ad2 20 (M0 g ad2) (fun q : Nat => s.heap.size ≤ q) s.heap H locs := ⟨pw_kept hP2 hk1 hne, hQ1.2⟩
  refine lv_aload_n hx hb dL_law_675 rfl (lv_at hl 2 rfl) ?_
  refine lv_aload_n hx hb dL_law_676 rfl (lv_at hl 0 rfl) ?_
  refine lv_iload_n hx hb dL_law_677 rfl (lv_at hl 3 rfl) ?_
  refine lv_iconst (v := 1) hx hb dL_law_678 (by decide) ?_
  refine lv_iadd hx hb dL_law_679 ?_
  refine sb_at (P := fun z => W _ _ _ _ _ _ _ _ _ _ _ _ _ _ _ (F0 _ _ _ (.int z :: _))) (show (0 : Int32) + 1 = 1 by decide) ?_
  refine va_sld hx hb hX hbl hbA hS (vp_in_lit 1 6 (by decide)) dL_law_680 ?_
  refine xcVi E (hs := ⟨hD2, hA2⟩) hQ2 hml hl.1 0 (fX12_comes l g ad2 hD2 (M0 g ad2) (fun i hi => rfl) (xs (1 : Int32).toNatClampNeg)) mX12_comes q1842 (by decide) rfl rfl rfl ⟨(Nat.le_of_ble_eq_true rfl), (Nat.le_of_ble_eq_true rfl)⟩ ⟨(Nat.le_of_ble_eq_true rfl), (Nat.le_of_ble_eq_true rfl)⟩ (Nat.le_of_ble_eq_true rfl) rfl dL_law_681 (fun r2 S2 H locs hp2 hQ2 hk2 => ?_)
  have hS := hQ2.2
  refine lv_icmp_eq (tgt := 2159) hx hb dL_law_684 (by decide) (fun _ => ?_) (fun h => absurd (Eq.trans hp1.2 (Eq.symm hp2)) h)
  exact law_tail C0 hS hl

set_option maxHeartbeats 4000000 in
set_option maxRecDepth 100000 in
theorem law_case_13 {p : Program} {l : Launch} {e : Env} {s : State} {m : MethodId} {below : List Frame} {meth : Method} {c : Code} {b : Nat} {xs : Nat → Int32} (C0 : lw_At p s m meth c b 6 xs) {g : GG} {ad1 ad2 : Nat → Nat} (hK : KK g s) (hD1 : Dj ad1 122) (hD2 : Dj ad2 20) (hA1 : ∀ i, i < 122 → (fun q : Nat => s.heap.size ≤ q) (ad1 i)) (hA2 : ∀ i, i < 20 → (fun q : Nat => s.heap.size ≤ q) (ad2 i)) (hne : ∀ i j, i < 122 → j < 20 → ad1 i ≠ ad2 j) {H : Heap} {locs : List Loc} (hP1 : PW g ad1 122 (X0 g ad1) H) (hP2 : PW g ad2 20 (M0 g ad2) H) (hS : va_S (fun q : Nat => s.heap.size ≤ q) s.heap H locs) {ls : Array Slot} (hl : lv_has ls 4 [(0, .ref b), (1, .ref (ad1 0)), (2, .ref (ad2 0)), (3, .int 0)]) : W p l e room_1 s m #[Value.ref b] below meth c H locs 142 12631 (lw_Z below #[Value.ref b] s) (F0 m 689 ls []) := by
  obtain ⟨hx, hb, hr, hml, hown, hts, hX, hbl, hlocks, hgv⟩ := id C0
  have hbA : ¬ (fun q : Nat => s.heap.size ≤ q) b := Nat.not_le.mpr hbl
  have E : Ev p s m #[Value.ref b] c cL_law "EbbWreckLaw" g := ⟨hx, hb, hown, fun w h => hts w (List.mem_filter.mp h).1, hK⟩
  have hQ1 : Hp g ad1 122 (X0 g ad1) (fun q : Nat => s.heap.size ≤ q) s.heap H locs := ⟨hP1, hS⟩
  refine lv_aload_n hx hb dL_law_689 rfl (lv_at hl 1 rfl) ?_
  refine lv_aload_n hx hb dL_law_690 rfl (lv_at hl 0 rfl) ?_
  refine lv_iload_n hx hb dL_law_691 rfl (lv_at hl 3 rfl) ?_
  refine lv_iconst (v := 1) hx hb dL_law_692 (by decide) ?_
  refine lv_iadd hx hb dL_law_693 ?_
  refine sb_at (P := fun z => W _ _ _ _ _ _ _ _ _ _ _ _ _ _ _ (F0 _ _ _ (.int z :: _))) (show (0 : Int32) + 1 = 1 by decide) ?_
  refine va_sld hx hb hX hbl hbA hS (vp_in_lit 1 6 (by decide)) dL_law_694 ?_
  refine xcVi E (hs := ⟨hD1, hA1⟩) hQ1 hml hl.1 0 (fX11_beach l g ad1 hD1 (X0 g ad1) (fun i hi => rfl) (xs (1 : Int32).toNatClampNeg)) mX11_beach q935 (by decide) rfl rfl rfl ⟨(Nat.le_of_ble_eq_true rfl), (Nat.le_of_ble_eq_true rfl)⟩ ⟨(Nat.le_of_ble_eq_true rfl), (Nat.le_of_ble_eq_true rfl)⟩ (Nat.le_of_ble_eq_true rfl) rfl dL_law_695 (fun r1 S1 H locs hp1 hQ1 hk1 => ?_)
  have hS := hQ1.2
  have hQ2 : Hp g ad2 20 (M0 g ad2) (fun q : Nat => s.heap.size ≤ q) s.heap H locs := ⟨pw_kept hP2 hk1 hne, hQ1.2⟩
  refine lv_aload_n hx hb dL_law_698 rfl (lv_at hl 2 rfl) ?_
  refine lv_aload_n hx hb dL_law_699 rfl (lv_at hl 0 rfl) ?_
  refine lv_iload_n hx hb dL_law_700 rfl (lv_at hl 3 rfl) ?_
  refine lv_iconst (v := 1) hx hb dL_law_701 (by decide) ?_
  refine lv_iadd hx hb dL_law_702 ?_
  refine sb_at (P := fun z => W _ _ _ _ _ _ _ _ _ _ _ _ _ _ _ (F0 _ _ _ (.int z :: _))) (show (0 : Int32) + 1 = 1 by decide) ?_
  refine va_sld hx hb hX hbl hbA hS (vp_in_lit 1 6 (by decide)) dL_law_703 ?_
  refine xcVi E (hs := ⟨hD2, hA2⟩) hQ2 hml hl.1 0 (fX12_beach l g ad2 hD2 (M0 g ad2) (fun i hi => rfl) (xs (1 : Int32).toNatClampNeg)) mX12_beach q1850 (by decide) rfl rfl rfl ⟨(Nat.le_of_ble_eq_true rfl), (Nat.le_of_ble_eq_true rfl)⟩ ⟨(Nat.le_of_ble_eq_true rfl), (Nat.le_of_ble_eq_true rfl)⟩ (Nat.le_of_ble_eq_true rfl) rfl dL_law_704 (fun r2 S2 H locs hp2 hQ2 hk2 => ?_)
  have hS := hQ2.2
  refine lv_icmp_eq (tgt := 2159) hx hb dL_law_707 (by decide) (fun _ => ?_) (fun h => absurd (Eq.trans hp1.2 (Eq.symm hp2)) h)
  exact law_tail C0 hS hl

set_option maxHeartbeats 4000000 in
set_option maxRecDepth 100000 in
theorem law_case_14 {p : Program} {l : Launch} {e : Env} {s : State} {m : MethodId} {below : List Frame} {meth : Method} {c : Code} {b : Nat} {xs : Nat → Int32} (C0 : lw_At p s m meth c b 6 xs) {g : GG} {ad1 ad2 : Nat → Nat} (hK : KK g s) (hD1 : Dj ad1 122) (hD2 : Dj ad2 20) (hA1 : ∀ i, i < 122 → (fun q : Nat => s.heap.size ≤ q) (ad1 i)) (hA2 : ∀ i, i < 20 → (fun q : Nat => s.heap.size ≤ q) (ad2 i)) (hne : ∀ i j, i < 122 → j < 20 → ad1 i ≠ ad2 j) {H : Heap} {locs : List Loc} (hP1 : PW g ad1 122 (X0 g ad1) H) (hP2 : PW g ad2 20 (M0 g ad2) H) (hS : va_S (fun q : Nat => s.heap.size ≤ q) s.heap H locs) {ls : Array Slot} (hl : lv_has ls 4 [(0, .ref b), (1, .ref (ad1 0)), (2, .ref (ad2 0)), (3, .int 0)]) : W p l e room_1 s m #[Value.ref b] below meth c H locs 142 12631 (lw_Z below #[Value.ref b] s) (F0 m 712 ls []) := by
  obtain ⟨hx, hb, hr, hml, hown, hts, hX, hbl, hlocks, hgv⟩ := id C0
  have hbA : ¬ (fun q : Nat => s.heap.size ≤ q) b := Nat.not_le.mpr hbl
  have E : Ev p s m #[Value.ref b] c cL_law "EbbWreckLaw" g := ⟨hx, hb, hown, fun w h => hts w (List.mem_filter.mp h).1, hK⟩
  have hQ1 : Hp g ad1 122 (X0 g ad1) (fun q : Nat => s.heap.size ≤ q) s.heap H locs := ⟨hP1, hS⟩
  refine lv_aload_n hx hb dL_law_712 rfl (lv_at hl 1 rfl) ?_
  refine lv_aload_n hx hb dL_law_713 rfl (lv_at hl 0 rfl) ?_
  refine lv_iload_n hx hb dL_law_714 rfl (lv_at hl 3 rfl) ?_
  refine lv_iconst (v := 1) hx hb dL_law_715 (by decide) ?_
  refine lv_iadd hx hb dL_law_716 ?_
  refine sb_at (P := fun z => W _ _ _ _ _ _ _ _ _ _ _ _ _ _ _ (F0 _ _ _ (.int z :: _))) (show (0 : Int32) + 1 = 1 by decide) ?_
  refine va_sld hx hb hX hbl hbA hS (vp_in_lit 1 6 (by decide)) dL_law_717 ?_
  refine xcVi E (hs := ⟨hD1, hA1⟩) hQ1 hml hl.1 0 (fX11_whose l g ad1 hD1 (X0 g ad1) (fun i hi => rfl) (xs (1 : Int32).toNatClampNeg)) mX11_whose q939 (by decide) rfl rfl rfl ⟨(Nat.le_of_ble_eq_true rfl), (Nat.le_of_ble_eq_true rfl)⟩ ⟨(Nat.le_of_ble_eq_true rfl), (Nat.le_of_ble_eq_true rfl)⟩ (Nat.le_of_ble_eq_true rfl) rfl dL_law_718 (fun r1 S1 H locs hp1 hQ1 hk1 => ?_)
  have hS := hQ1.2
  have hQ2 : Hp g ad2 20 (M0 g ad2) (fun q : Nat => s.heap.size ≤ q) s.heap H locs := ⟨pw_kept hP2 hk1 hne, hQ1.2⟩
  refine lv_aload_n hx hb dL_law_721 rfl (lv_at hl 2 rfl) ?_
  refine lv_aload_n hx hb dL_law_722 rfl (lv_at hl 0 rfl) ?_
  refine lv_iload_n hx hb dL_law_723 rfl (lv_at hl 3 rfl) ?_
  refine lv_iconst (v := 1) hx hb dL_law_724 (by decide) ?_
  refine lv_iadd hx hb dL_law_725 ?_
  refine sb_at (P := fun z => W _ _ _ _ _ _ _ _ _ _ _ _ _ _ _ (F0 _ _ _ (.int z :: _))) (show (0 : Int32) + 1 = 1 by decide) ?_
  refine va_sld hx hb hX hbl hbA hS (vp_in_lit 1 6 (by decide)) dL_law_726 ?_
  refine xcVi E (hs := ⟨hD2, hA2⟩) hQ2 hml hl.1 0 (fX12_whose l g ad2 hD2 (M0 g ad2) (fun i hi => rfl) (xs (1 : Int32).toNatClampNeg)) mX12_whose q1854 (by decide) rfl rfl rfl ⟨(Nat.le_of_ble_eq_true rfl), (Nat.le_of_ble_eq_true rfl)⟩ ⟨(Nat.le_of_ble_eq_true rfl), (Nat.le_of_ble_eq_true rfl)⟩ (Nat.le_of_ble_eq_true rfl) rfl dL_law_727 (fun r2 S2 H locs hp2 hQ2 hk2 => ?_)
  have hS := hQ2.2
  refine lv_icmp_eq (tgt := 2159) hx hb dL_law_730 (by decide) (fun _ => ?_) (fun h => absurd (Eq.trans hp1.2 (Eq.symm hp2)) h)
  exact law_tail C0 hS hl

set_option maxHeartbeats 4000000 in
set_option maxRecDepth 100000 in
theorem law_case_15 {p : Program} {l : Launch} {e : Env} {s : State} {m : MethodId} {below : List Frame} {meth : Method} {c : Code} {b : Nat} {xs : Nat → Int32} (C0 : lw_At p s m meth c b 6 xs) {g : GG} {ad1 ad2 : Nat → Nat} (hK : KK g s) (hD1 : Dj ad1 122) (hD2 : Dj ad2 20) (hA1 : ∀ i, i < 122 → (fun q : Nat => s.heap.size ≤ q) (ad1 i)) (hA2 : ∀ i, i < 20 → (fun q : Nat => s.heap.size ≤ q) (ad2 i)) (hne : ∀ i j, i < 122 → j < 20 → ad1 i ≠ ad2 j) {H : Heap} {locs : List Loc} (hP1 : PW g ad1 122 (X0 g ad1) H) (hP2 : PW g ad2 20 (M0 g ad2) H) (hS : va_S (fun q : Nat => s.heap.size ≤ q) s.heap H locs) {ls : Array Slot} (hl : lv_has ls 4 [(0, .ref b), (1, .ref (ad1 0)), (2, .ref (ad2 0)), (3, .int 0)]) : W p l e room_1 s m #[Value.ref b] below meth c H locs 142 12631 (lw_Z below #[Value.ref b] s) (F0 m 735 ls []) := by
  obtain ⟨hx, hb, hr, hml, hown, hts, hX, hbl, hlocks, hgv⟩ := id C0
  have hbA : ¬ (fun q : Nat => s.heap.size ≤ q) b := Nat.not_le.mpr hbl
  have E : Ev p s m #[Value.ref b] c cL_law "EbbWreckLaw" g := ⟨hx, hb, hown, fun w h => hts w (List.mem_filter.mp h).1, hK⟩
  have hQ1 : Hp g ad1 122 (X0 g ad1) (fun q : Nat => s.heap.size ≤ q) s.heap H locs := ⟨hP1, hS⟩
  refine lv_aload_n hx hb dL_law_735 rfl (lv_at hl 1 rfl) ?_
  refine lv_aload_n hx hb dL_law_736 rfl (lv_at hl 0 rfl) ?_
  refine lv_iload_n hx hb dL_law_737 rfl (lv_at hl 3 rfl) ?_
  refine lv_iconst (v := 1) hx hb dL_law_738 (by decide) ?_
  refine lv_iadd hx hb dL_law_739 ?_
  refine sb_at (P := fun z => W _ _ _ _ _ _ _ _ _ _ _ _ _ _ _ (F0 _ _ _ (.int z :: _))) (show (0 : Int32) + 1 = 1 by decide) ?_
  refine va_sld hx hb hX hbl hbA hS (vp_in_lit 1 6 (by decide)) dL_law_740 ?_
  refine xcVi E (hs := ⟨hD1, hA1⟩) hQ1 hml hl.1 0 (fX11_has l g ad1 hD1 (X0 g ad1) (fun i hi => rfl) (xs (1 : Int32).toNatClampNeg)) mX11_has q959 (by decide) rfl rfl rfl ⟨(Nat.le_of_ble_eq_true rfl), (Nat.le_of_ble_eq_true rfl)⟩ ⟨(Nat.le_of_ble_eq_true rfl), (Nat.le_of_ble_eq_true rfl)⟩ (Nat.le_of_ble_eq_true rfl) rfl dL_law_741 (fun r1 S1 H locs hp1 hQ1 hk1 => ?_)
  have hS := hQ1.2
  have hQ2 : Hp g ad2 20 (M0 g ad2) (fun q : Nat => s.heap.size ≤ q) s.heap H locs := ⟨pw_kept hP2 hk1 hne, hQ1.2⟩
  refine lv_aload_n hx hb dL_law_744 rfl (lv_at hl 2 rfl) ?_
  refine lv_aload_n hx hb dL_law_745 rfl (lv_at hl 0 rfl) ?_
  refine lv_iload_n hx hb dL_law_746 rfl (lv_at hl 3 rfl) ?_
  refine lv_iconst (v := 1) hx hb dL_law_747 (by decide) ?_
  refine lv_iadd hx hb dL_law_748 ?_
  refine sb_at (P := fun z => W _ _ _ _ _ _ _ _ _ _ _ _ _ _ _ (F0 _ _ _ (.int z :: _))) (show (0 : Int32) + 1 = 1 by decide) ?_
  refine va_sld hx hb hX hbl hbA hS (vp_in_lit 1 6 (by decide)) dL_law_749 ?_
  refine xcVi E (hs := ⟨hD2, hA2⟩) hQ2 hml hl.1 0 (fX12_has l g ad2 hD2 (M0 g ad2) (fun i hi => rfl) (xs (1 : Int32).toNatClampNeg)) mX12_has q1870 (by decide) rfl rfl rfl ⟨(Nat.le_of_ble_eq_true rfl), (Nat.le_of_ble_eq_true rfl)⟩ ⟨(Nat.le_of_ble_eq_true rfl), (Nat.le_of_ble_eq_true rfl)⟩ (Nat.le_of_ble_eq_true rfl) rfl dL_law_750 (fun r2 S2 H locs hp2 hQ2 hk2 => ?_)
  have hS := hQ2.2
  refine lv_icmp_eq (tgt := 2159) hx hb dL_law_753 (by decide) (fun _ => ?_) (fun h => absurd (Eq.trans hp1.2 (Eq.symm hp2)) h)
  exact law_tail C0 hS hl

set_option maxHeartbeats 4000000 in
set_option maxRecDepth 100000 in
theorem law_case_16 {p : Program} {l : Launch} {e : Env} {s : State} {m : MethodId} {below : List Frame} {meth : Method} {c : Code} {b : Nat} {xs : Nat → Int32} (C0 : lw_At p s m meth c b 6 xs) {g : GG} {ad1 ad2 : Nat → Nat} (hK : KK g s) (hD1 : Dj ad1 122) (hD2 : Dj ad2 20) (hA1 : ∀ i, i < 122 → (fun q : Nat => s.heap.size ≤ q) (ad1 i)) (hA2 : ∀ i, i < 20 → (fun q : Nat => s.heap.size ≤ q) (ad2 i)) (hne : ∀ i j, i < 122 → j < 20 → ad1 i ≠ ad2 j) {H : Heap} {locs : List Loc} (hP1 : PW g ad1 122 (X0 g ad1) H) (hP2 : PW g ad2 20 (M0 g ad2) H) (hS : va_S (fun q : Nat => s.heap.size ≤ q) s.heap H locs) {ls : Array Slot} (hl : lv_has ls 4 [(0, .ref b), (1, .ref (ad1 0)), (2, .ref (ad2 0)), (3, .int 0)]) : W p l e room_1 s m #[Value.ref b] below meth c H locs 142 12631 (lw_Z below #[Value.ref b] s) (F0 m 758 ls []) := by
  obtain ⟨hx, hb, hr, hml, hown, hts, hX, hbl, hlocks, hgv⟩ := id C0
  have hbA : ¬ (fun q : Nat => s.heap.size ≤ q) b := Nat.not_le.mpr hbl
  have E : Ev p s m #[Value.ref b] c cL_law "EbbWreckLaw" g := ⟨hx, hb, hown, fun w h => hts w (List.mem_filter.mp h).1, hK⟩
  have hQ1 : Hp g ad1 122 (X0 g ad1) (fun q : Nat => s.heap.size ≤ q) s.heap H locs := ⟨hP1, hS⟩
  refine lv_aload_n hx hb dL_law_758 rfl (lv_at hl 1 rfl) ?_
  refine lv_aload_n hx hb dL_law_759 rfl (lv_at hl 0 rfl) ?_
  refine lv_iload_n hx hb dL_law_760 rfl (lv_at hl 3 rfl) ?_
  refine lv_iconst (v := 1) hx hb dL_law_761 (by decide) ?_
  refine lv_iadd hx hb dL_law_762 ?_
  refine sb_at (P := fun z => W _ _ _ _ _ _ _ _ _ _ _ _ _ _ _ (F0 _ _ _ (.int z :: _))) (show (0 : Int32) + 1 = 1 by decide) ?_
  refine va_sld hx hb hX hbl hbA hS (vp_in_lit 1 6 (by decide)) dL_law_763 ?_
  refine xcVi E (hs := ⟨hD1, hA1⟩) hQ1 hml hl.1 0 (fX11_line l g ad1 hD1 (X0 g ad1) (fun i hi => rfl) (xs (1 : Int32).toNatClampNeg)) mX11_line q972 (by decide) rfl rfl rfl ⟨(Nat.le_of_ble_eq_true rfl), (Nat.le_of_ble_eq_true rfl)⟩ ⟨(Nat.le_of_ble_eq_true rfl), (Nat.le_of_ble_eq_true rfl)⟩ (Nat.le_of_ble_eq_true rfl) rfl dL_law_764 (fun r1 S1 H locs hp1 hQ1 hk1 => ?_)
  have hS := hQ1.2
  have hQ2 : Hp g ad2 20 (M0 g ad2) (fun q : Nat => s.heap.size ≤ q) s.heap H locs := ⟨pw_kept hP2 hk1 hne, hQ1.2⟩
  refine lv_aload_n hx hb dL_law_767 rfl (lv_at hl 2 rfl) ?_
  refine lv_aload_n hx hb dL_law_768 rfl (lv_at hl 0 rfl) ?_
  refine lv_iload_n hx hb dL_law_769 rfl (lv_at hl 3 rfl) ?_
  refine lv_iconst (v := 1) hx hb dL_law_770 (by decide) ?_
  refine lv_iadd hx hb dL_law_771 ?_
  refine sb_at (P := fun z => W _ _ _ _ _ _ _ _ _ _ _ _ _ _ _ (F0 _ _ _ (.int z :: _))) (show (0 : Int32) + 1 = 1 by decide) ?_
  refine va_sld hx hb hX hbl hbA hS (vp_in_lit 1 6 (by decide)) dL_law_772 ?_
  refine xcVi E (hs := ⟨hD2, hA2⟩) hQ2 hml hl.1 0 (fX12_line_ l g ad2 hD2 (M0 g ad2) (fun i hi => rfl) (xs (1 : Int32).toNatClampNeg)) mX12_line_ q1887 (by decide) rfl rfl rfl ⟨(Nat.le_of_ble_eq_true rfl), (Nat.le_of_ble_eq_true rfl)⟩ ⟨(Nat.le_of_ble_eq_true rfl), (Nat.le_of_ble_eq_true rfl)⟩ (Nat.le_of_ble_eq_true rfl) rfl dL_law_773 (fun r2 S2 H locs hp2 hQ2 hk2 => ?_)
  have hS := hQ2.2
  refine lv_icmp_eq (tgt := 2159) hx hb dL_law_776 (by decide) (fun _ => ?_) (fun h => absurd (Eq.trans hp1.2 (Eq.symm hp2)) h)
  exact law_tail C0 hS hl

set_option maxHeartbeats 4000000 in
set_option maxRecDepth 100000 in
theorem law_case_17 {p : Program} {l : Launch} {e : Env} {s : State} {m : MethodId} {below : List Frame} {meth : Method} {c : Code} {b : Nat} {xs : Nat → Int32} (C0 : lw_At p s m meth c b 6 xs) {g : GG} {ad1 ad2 : Nat → Nat} (hK : KK g s) (hD1 : Dj ad1 122) (hD2 : Dj ad2 20) (hA1 : ∀ i, i < 122 → (fun q : Nat => s.heap.size ≤ q) (ad1 i)) (hA2 : ∀ i, i < 20 → (fun q : Nat => s.heap.size ≤ q) (ad2 i)) (hne : ∀ i j, i < 122 → j < 20 → ad1 i ≠ ad2 j) {H : Heap} {locs : List Loc} (hP1 : PW g ad1 122 (X0 g ad1) H) (hP2 : PW g ad2 20 (M0 g ad2) H) (hS : va_S (fun q : Nat => s.heap.size ≤ q) s.heap H locs) {ls : Array Slot} (hl : lv_has ls 4 [(0, .ref b), (1, .ref (ad1 0)), (2, .ref (ad2 0)), (3, .int 0)]) : W p l e room_1 s m #[Value.ref b] below meth c H locs 142 12631 (lw_Z below #[Value.ref b] s) (F0 m 781 ls []) := by
  obtain ⟨hx, hb, hr, hml, hown, hts, hX, hbl, hlocks, hgv⟩ := id C0
  have hbA : ¬ (fun q : Nat => s.heap.size ≤ q) b := Nat.not_le.mpr hbl
  have E : Ev p s m #[Value.ref b] c cL_law "EbbWreckLaw" g := ⟨hx, hb, hown, fun w h => hts w (List.mem_filter.mp h).1, hK⟩
  have hQ1 : Hp g ad1 122 (X0 g ad1) (fun q : Nat => s.heap.size ≤ q) s.heap H locs := ⟨hP1, hS⟩
  refine lv_aload_n hx hb dL_law_781 rfl (lv_at hl 1 rfl) ?_
  refine xcVi E (hs := ⟨hD1, hA1⟩) hQ1 hml hl.1 0 (fX11_argued l g ad1 hD1 (X0 g ad1) (fun i hi => rfl)) mX11_argued q997 (by decide) rfl rfl rfl ⟨(Nat.le_of_ble_eq_true rfl), (Nat.le_of_ble_eq_true rfl)⟩ ⟨(Nat.le_of_ble_eq_true rfl), (Nat.le_of_ble_eq_true rfl)⟩ (Nat.le_of_ble_eq_true rfl) rfl dL_law_782 (fun r1 S1 H locs hp1 hQ1 hk1 => ?_)
  have hS := hQ1.2
  have hQ2 : Hp g ad2 20 (M0 g ad2) (fun q : Nat => s.heap.size ≤ q) s.heap H locs := ⟨pw_kept hP2 hk1 hne, hQ1.2⟩
  refine lv_aload_n hx hb dL_law_785 rfl (lv_at hl 2 rfl) ?_
  refine xcVi E (hs := ⟨hD2, hA2⟩) hQ2 hml hl.1 0 (fX12_argued l g ad2 hD2 (M0 g ad2) (fun i hi => rfl)) mX12_argued q1891 (by decide) rfl rfl rfl ⟨(Nat.le_of_ble_eq_true rfl), (Nat.le_of_ble_eq_true rfl)⟩ ⟨(Nat.le_of_ble_eq_true rfl), (Nat.le_of_ble_eq_true rfl)⟩ (Nat.le_of_ble_eq_true rfl) rfl dL_law_786 (fun r2 S2 H locs hp2 hQ2 hk2 => ?_)
  have hS := hQ2.2
  refine lv_icmp_eq (tgt := 2159) hx hb dL_law_789 (by decide) (fun _ => ?_) (fun h => absurd (Eq.trans hp1.2 (Eq.symm hp2)) h)
  exact law_tail C0 hS hl

set_option maxHeartbeats 4000000 in
set_option maxRecDepth 100000 in
theorem law_case_18 {p : Program} {l : Launch} {e : Env} {s : State} {m : MethodId} {below : List Frame} {meth : Method} {c : Code} {b : Nat} {xs : Nat → Int32} (C0 : lw_At p s m meth c b 6 xs) {g : GG} {ad1 ad2 : Nat → Nat} (hK : KK g s) (hD1 : Dj ad1 122) (hD2 : Dj ad2 20) (hA1 : ∀ i, i < 122 → (fun q : Nat => s.heap.size ≤ q) (ad1 i)) (hA2 : ∀ i, i < 20 → (fun q : Nat => s.heap.size ≤ q) (ad2 i)) (hne : ∀ i j, i < 122 → j < 20 → ad1 i ≠ ad2 j) {H : Heap} {locs : List Loc} (hP1 : PW g ad1 122 (X0 g ad1) H) (hP2 : PW g ad2 20 (M0 g ad2) H) (hS : va_S (fun q : Nat => s.heap.size ≤ q) s.heap H locs) {ls : Array Slot} (hl : lv_has ls 4 [(0, .ref b), (1, .ref (ad1 0)), (2, .ref (ad2 0)), (3, .int 0)]) : W p l e room_1 s m #[Value.ref b] below meth c H locs 142 12631 (lw_Z below #[Value.ref b] s) (F0 m 794 ls []) := by
  obtain ⟨hx, hb, hr, hml, hown, hts, hX, hbl, hlocks, hgv⟩ := id C0
  have hbA : ¬ (fun q : Nat => s.heap.size ≤ q) b := Nat.not_le.mpr hbl
  have E : Ev p s m #[Value.ref b] c cL_law "EbbWreckLaw" g := ⟨hx, hb, hown, fun w h => hts w (List.mem_filter.mp h).1, hK⟩
  have hQ1 : Hp g ad1 122 (X0 g ad1) (fun q : Nat => s.heap.size ≤ q) s.heap H locs := ⟨hP1, hS⟩
  refine lv_aload_n hx hb dL_law_794 rfl (lv_at hl 1 rfl) ?_
  refine lv_aload_n hx hb dL_law_795 rfl (lv_at hl 0 rfl) ?_
  refine lv_iload_n hx hb dL_law_796 rfl (lv_at hl 3 rfl) ?_
  refine lv_iconst (v := 1) hx hb dL_law_797 (by decide) ?_
  refine lv_iadd hx hb dL_law_798 ?_
  refine sb_at (P := fun z => W _ _ _ _ _ _ _ _ _ _ _ _ _ _ _ (F0 _ _ _ (.int z :: _))) (show (0 : Int32) + 1 = 1 by decide) ?_
  refine va_sld hx hb hX hbl hbA hS (vp_in_lit 1 6 (by decide)) dL_law_799 ?_
  refine xcVi E (hs := ⟨hD1, hA1⟩) hQ1 hml hl.1 0 (fX11_gaps l g ad1 hD1 (X0 g ad1) (fun i hi => rfl) (xs (1 : Int32).toNatClampNeg)) mX11_gaps q1015 (by decide) rfl rfl rfl ⟨(Nat.le_of_ble_eq_true rfl), (Nat.le_of_ble_eq_true rfl)⟩ ⟨(Nat.le_of_ble_eq_true rfl), (Nat.le_of_ble_eq_true rfl)⟩ (Nat.le_of_ble_eq_true rfl) rfl dL_law_800 (fun r1 S1 H locs hp1 hQ1 hk1 => ?_)
  have hS := hQ1.2
  have hQ2 : Hp g ad2 20 (M0 g ad2) (fun q : Nat => s.heap.size ≤ q) s.heap H locs := ⟨pw_kept hP2 hk1 hne, hQ1.2⟩
  refine lv_aload_n hx hb dL_law_803 rfl (lv_at hl 2 rfl) ?_
  refine lv_aload_n hx hb dL_law_804 rfl (lv_at hl 0 rfl) ?_
  refine lv_iload_n hx hb dL_law_805 rfl (lv_at hl 3 rfl) ?_
  refine lv_iconst (v := 1) hx hb dL_law_806 (by decide) ?_
  refine lv_iadd hx hb dL_law_807 ?_
  refine sb_at (P := fun z => W _ _ _ _ _ _ _ _ _ _ _ _ _ _ _ (F0 _ _ _ (.int z :: _))) (show (0 : Int32) + 1 = 1 by decide) ?_
  refine va_sld hx hb hX hbl hbA hS (vp_in_lit 1 6 (by decide)) dL_law_808 ?_
  refine xcVi E (hs := ⟨hD2, hA2⟩) hQ2 hml hl.1 0 (fX12_gaps l g ad2 hD2 (M0 g ad2) (fun i hi => rfl) (xs (1 : Int32).toNatClampNeg)) mX12_gaps q1898 (by decide) rfl rfl rfl ⟨(Nat.le_of_ble_eq_true rfl), (Nat.le_of_ble_eq_true rfl)⟩ ⟨(Nat.le_of_ble_eq_true rfl), (Nat.le_of_ble_eq_true rfl)⟩ (Nat.le_of_ble_eq_true rfl) rfl dL_law_809 (fun r2 S2 H locs hp2 hQ2 hk2 => ?_)
  have hS := hQ2.2
  refine lv_icmp_eq (tgt := 2159) hx hb dL_law_812 (by decide) (fun _ => ?_) (fun h => absurd (Eq.trans hp1.2 (Eq.symm hp2)) h)
  exact law_tail C0 hS hl

set_option maxHeartbeats 4000000 in
set_option maxRecDepth 100000 in
theorem law_case_19 {p : Program} {l : Launch} {e : Env} {s : State} {m : MethodId} {below : List Frame} {meth : Method} {c : Code} {b : Nat} {xs : Nat → Int32} (C0 : lw_At p s m meth c b 6 xs) {g : GG} {ad1 ad2 : Nat → Nat} (hK : KK g s) (hD1 : Dj ad1 122) (hD2 : Dj ad2 20) (hA1 : ∀ i, i < 122 → (fun q : Nat => s.heap.size ≤ q) (ad1 i)) (hA2 : ∀ i, i < 20 → (fun q : Nat => s.heap.size ≤ q) (ad2 i)) (hne : ∀ i j, i < 122 → j < 20 → ad1 i ≠ ad2 j) {H : Heap} {locs : List Loc} (hP1 : PW g ad1 122 (X0 g ad1) H) (hP2 : PW g ad2 20 (M0 g ad2) H) (hS : va_S (fun q : Nat => s.heap.size ≤ q) s.heap H locs) {ls : Array Slot} (hl : lv_has ls 4 [(0, .ref b), (1, .ref (ad1 0)), (2, .ref (ad2 0)), (3, .int 0)]) : W p l e room_1 s m #[Value.ref b] below meth c H locs 142 12631 (lw_Z below #[Value.ref b] s) (F0 m 817 ls []) := by
  obtain ⟨hx, hb, hr, hml, hown, hts, hX, hbl, hlocks, hgv⟩ := id C0
  have hbA : ¬ (fun q : Nat => s.heap.size ≤ q) b := Nat.not_le.mpr hbl
  have E : Ev p s m #[Value.ref b] c cL_law "EbbWreckLaw" g := ⟨hx, hb, hown, fun w h => hts w (List.mem_filter.mp h).1, hK⟩
  have hQ1 : Hp g ad1 122 (X0 g ad1) (fun q : Nat => s.heap.size ≤ q) s.heap H locs := ⟨hP1, hS⟩
  refine lv_aload_n hx hb dL_law_817 rfl (lv_at hl 1 rfl) ?_
  refine xcVi E (hs := ⟨hD1, hA1⟩) hQ1 hml hl.1 0 (fX11_idle l g ad1 hD1 (X0 g ad1) (fun i hi => rfl)) mX11_idle q1020 (by decide) rfl rfl rfl ⟨(Nat.le_of_ble_eq_true rfl), (Nat.le_of_ble_eq_true rfl)⟩ ⟨(Nat.le_of_ble_eq_true rfl), (Nat.le_of_ble_eq_true rfl)⟩ (Nat.le_of_ble_eq_true rfl) rfl dL_law_818 (fun r1 S1 H locs hp1 hQ1 hk1 => ?_)
  have hS := hQ1.2
  have hQ2 : Hp g ad2 20 (M0 g ad2) (fun q : Nat => s.heap.size ≤ q) s.heap H locs := ⟨pw_kept hP2 hk1 hne, hQ1.2⟩
  refine lv_aload_n hx hb dL_law_821 rfl (lv_at hl 2 rfl) ?_
  refine xcVi E (hs := ⟨hD2, hA2⟩) hQ2 hml hl.1 0 (fX12_idle l g ad2 hD2 (M0 g ad2) (fun i hi => rfl)) mX12_idle q1902 (by decide) rfl rfl rfl ⟨(Nat.le_of_ble_eq_true rfl), (Nat.le_of_ble_eq_true rfl)⟩ ⟨(Nat.le_of_ble_eq_true rfl), (Nat.le_of_ble_eq_true rfl)⟩ (Nat.le_of_ble_eq_true rfl) rfl dL_law_822 (fun r2 S2 H locs hp2 hQ2 hk2 => ?_)
  have hS := hQ2.2
  refine lv_icmp_eq (tgt := 2159) hx hb dL_law_825 (by decide) (fun _ => ?_) (fun h => absurd (Eq.trans hp1.2 (Eq.symm hp2)) h)
  exact law_tail C0 hS hl

set_option maxHeartbeats 4000000 in
set_option maxRecDepth 100000 in
theorem law_case_20 {p : Program} {l : Launch} {e : Env} {s : State} {m : MethodId} {below : List Frame} {meth : Method} {c : Code} {b : Nat} {xs : Nat → Int32} (C0 : lw_At p s m meth c b 6 xs) {g : GG} {ad1 ad2 : Nat → Nat} (hK : KK g s) (hD1 : Dj ad1 122) (hD2 : Dj ad2 20) (hA1 : ∀ i, i < 122 → (fun q : Nat => s.heap.size ≤ q) (ad1 i)) (hA2 : ∀ i, i < 20 → (fun q : Nat => s.heap.size ≤ q) (ad2 i)) (hne : ∀ i j, i < 122 → j < 20 → ad1 i ≠ ad2 j) {H : Heap} {locs : List Loc} (hP1 : PW g ad1 122 (X0 g ad1) H) (hP2 : PW g ad2 20 (M0 g ad2) H) (hS : va_S (fun q : Nat => s.heap.size ≤ q) s.heap H locs) {ls : Array Slot} (hl : lv_has ls 4 [(0, .ref b), (1, .ref (ad1 0)), (2, .ref (ad2 0)), (3, .int 0)]) : W p l e room_1 s m #[Value.ref b] below meth c H locs 142 12631 (lw_Z below #[Value.ref b] s) (F0 m 830 ls []) := by
  obtain ⟨hx, hb, hr, hml, hown, hts, hX, hbl, hlocks, hgv⟩ := id C0
  have hbA : ¬ (fun q : Nat => s.heap.size ≤ q) b := Nat.not_le.mpr hbl
  have E : Ev p s m #[Value.ref b] c cL_law "EbbWreckLaw" g := ⟨hx, hb, hown, fun w h => hts w (List.mem_filter.mp h).1, hK⟩
  have hQ1 : Hp g ad1 122 (X0 g ad1) (fun q : Nat => s.heap.size ≤ q) s.heap H locs := ⟨hP1, hS⟩
  refine lv_aload_n hx hb dL_law_830 rfl (lv_at hl 1 rfl) ?_
  refine lv_aload_n hx hb dL_law_831 rfl (lv_at hl 0 rfl) ?_
  refine lv_iload_n hx hb dL_law_832 rfl (lv_at hl 3 rfl) ?_
  refine lv_iconst (v := 1) hx hb dL_law_833 (by decide) ?_
  refine lv_iadd hx hb dL_law_834 ?_
  refine sb_at (P := fun z => W _ _ _ _ _ _ _ _ _ _ _ _ _ _ _ (F0 _ _ _ (.int z :: _))) (show (0 : Int32) + 1 = 1 by decide) ?_
  refine va_sld hx hb hX hbl hbA hS (vp_in_lit 1 6 (by decide)) dL_law_835 ?_
  refine lv_aload_n hx hb dL_law_836 rfl (lv_at hl 0 rfl) ?_
  refine lv_iload_n hx hb dL_law_837 rfl (lv_at hl 3 rfl) ?_
  refine lv_iconst (v := 2) hx hb dL_law_838 (by decide) ?_
  refine lv_iadd hx hb dL_law_839 ?_
  refine sb_at (P := fun z => W _ _ _ _ _ _ _ _ _ _ _ _ _ _ _ (F0 _ _ _ (.int z :: _))) (show (0 : Int32) + 2 = 2 by decide) ?_
  refine va_sld hx hb hX hbl hbA hS (vp_in_lit 2 6 (by decide)) dL_law_840 ?_
  refine xcVi E (hs := ⟨hD1, hA1⟩) hQ1 hml hl.1 0 (fX11_without l g ad1 hD1 (X0 g ad1) (fun i hi => rfl) (xs (1 : Int32).toNatClampNeg) (xs (2 : Int32).toNatClampNeg)) mX11_without q1024 (by decide) rfl rfl rfl ⟨(Nat.le_of_ble_eq_true rfl), (Nat.le_of_ble_eq_true rfl)⟩ ⟨(Nat.le_of_ble_eq_true rfl), (Nat.le_of_ble_eq_true rfl)⟩ (Nat.le_of_ble_eq_true rfl) rfl dL_law_841 (fun r1 S1 H locs hp1 hQ1 hk1 => ?_)
  have hS := hQ1.2
  have hQ2 : Hp g ad2 20 (M0 g ad2) (fun q : Nat => s.heap.size ≤ q) s.heap H locs := ⟨pw_kept hP2 hk1 hne, hQ1.2⟩
  refine lv_aload_n hx hb dL_law_844 rfl (lv_at hl 2 rfl) ?_
  refine lv_aload_n hx hb dL_law_845 rfl (lv_at hl 0 rfl) ?_
  refine lv_iload_n hx hb dL_law_846 rfl (lv_at hl 3 rfl) ?_
  refine lv_iconst (v := 1) hx hb dL_law_847 (by decide) ?_
  refine lv_iadd hx hb dL_law_848 ?_
  refine sb_at (P := fun z => W _ _ _ _ _ _ _ _ _ _ _ _ _ _ _ (F0 _ _ _ (.int z :: _))) (show (0 : Int32) + 1 = 1 by decide) ?_
  refine va_sld hx hb hX hbl hbA hS (vp_in_lit 1 6 (by decide)) dL_law_849 ?_
  refine lv_aload_n hx hb dL_law_850 rfl (lv_at hl 0 rfl) ?_
  refine lv_iload_n hx hb dL_law_851 rfl (lv_at hl 3 rfl) ?_
  refine lv_iconst (v := 2) hx hb dL_law_852 (by decide) ?_
  refine lv_iadd hx hb dL_law_853 ?_
  refine sb_at (P := fun z => W _ _ _ _ _ _ _ _ _ _ _ _ _ _ _ (F0 _ _ _ (.int z :: _))) (show (0 : Int32) + 2 = 2 by decide) ?_
  refine va_sld hx hb hX hbl hbA hS (vp_in_lit 2 6 (by decide)) dL_law_854 ?_
  refine xcVi E (hs := ⟨hD2, hA2⟩) hQ2 hml hl.1 0 (fX12_without l g ad2 hD2 (M0 g ad2) (fun i hi => rfl) (xs (1 : Int32).toNatClampNeg) (xs (2 : Int32).toNatClampNeg)) mX12_without q1910 (by decide) rfl rfl rfl ⟨(Nat.le_of_ble_eq_true rfl), (Nat.le_of_ble_eq_true rfl)⟩ ⟨(Nat.le_of_ble_eq_true rfl), (Nat.le_of_ble_eq_true rfl)⟩ (Nat.le_of_ble_eq_true rfl) rfl dL_law_855 (fun r2 S2 H locs hp2 hQ2 hk2 => ?_)
  have hS := hQ2.2
  refine lv_icmp_eq (tgt := 2159) hx hb dL_law_858 (by decide) (fun _ => ?_) (fun h => absurd (Eq.trans hp1.2 (Eq.symm hp2)) h)
  exact law_tail C0 hS hl

set_option maxHeartbeats 4000000 in
set_option maxRecDepth 100000 in
theorem law_case_21 {p : Program} {l : Launch} {e : Env} {s : State} {m : MethodId} {below : List Frame} {meth : Method} {c : Code} {b : Nat} {xs : Nat → Int32} (C0 : lw_At p s m meth c b 6 xs) {g : GG} {ad1 ad2 : Nat → Nat} (hK : KK g s) (hD1 : Dj ad1 122) (hD2 : Dj ad2 20) (hA1 : ∀ i, i < 122 → (fun q : Nat => s.heap.size ≤ q) (ad1 i)) (hA2 : ∀ i, i < 20 → (fun q : Nat => s.heap.size ≤ q) (ad2 i)) (hne : ∀ i j, i < 122 → j < 20 → ad1 i ≠ ad2 j) {H : Heap} {locs : List Loc} (hP1 : PW g ad1 122 (X0 g ad1) H) (hP2 : PW g ad2 20 (M0 g ad2) H) (hS : va_S (fun q : Nat => s.heap.size ≤ q) s.heap H locs) {ls : Array Slot} (hl : lv_has ls 4 [(0, .ref b), (1, .ref (ad1 0)), (2, .ref (ad2 0)), (3, .int 0)]) : W p l e room_1 s m #[Value.ref b] below meth c H locs 142 12631 (lw_Z below #[Value.ref b] s) (F0 m 863 ls []) := by
  obtain ⟨hx, hb, hr, hml, hown, hts, hX, hbl, hlocks, hgv⟩ := id C0
  have hbA : ¬ (fun q : Nat => s.heap.size ≤ q) b := Nat.not_le.mpr hbl
  have E : Ev p s m #[Value.ref b] c cL_law "EbbWreckLaw" g := ⟨hx, hb, hown, fun w h => hts w (List.mem_filter.mp h).1, hK⟩
  have hQ1 : Hp g ad1 122 (X0 g ad1) (fun q : Nat => s.heap.size ≤ q) s.heap H locs := ⟨hP1, hS⟩
  refine lv_aload_n hx hb dL_law_863 rfl (lv_at hl 1 rfl) ?_
  refine lv_aload_n hx hb dL_law_864 rfl (lv_at hl 0 rfl) ?_
  refine lv_iload_n hx hb dL_law_865 rfl (lv_at hl 3 rfl) ?_
  refine lv_iconst (v := 1) hx hb dL_law_866 (by decide) ?_
  refine lv_iadd hx hb dL_law_867 ?_
  refine sb_at (P := fun z => W _ _ _ _ _ _ _ _ _ _ _ _ _ _ _ (F0 _ _ _ (.int z :: _))) (show (0 : Int32) + 1 = 1 by decide) ?_
  refine va_sld hx hb hX hbl hbA hS (vp_in_lit 1 6 (by decide)) dL_law_868 ?_
  refine xcVi E (hs := ⟨hD1, hA1⟩) hQ1 hml hl.1 0 (fX11_strike l g ad1 hD1 (X0 g ad1) (fun i hi => rfl) (xs (1 : Int32).toNatClampNeg)) mX11_strike q1028 (by decide) rfl rfl rfl ⟨(Nat.le_of_ble_eq_true rfl), (Nat.le_of_ble_eq_true rfl)⟩ ⟨(Nat.le_of_ble_eq_true rfl), (Nat.le_of_ble_eq_true rfl)⟩ (Nat.le_of_ble_eq_true rfl) rfl dL_law_869 (fun r1 S1 H locs hp1 hQ1 hk1 => ?_)
  have hS := hQ1.2
  have hQ2 : Hp g ad2 20 (M0 g ad2) (fun q : Nat => s.heap.size ≤ q) s.heap H locs := ⟨pw_kept hP2 hk1 hne, hQ1.2⟩
  refine lv_aload_n hx hb dL_law_872 rfl (lv_at hl 2 rfl) ?_
  refine lv_aload_n hx hb dL_law_873 rfl (lv_at hl 0 rfl) ?_
  refine lv_iload_n hx hb dL_law_874 rfl (lv_at hl 3 rfl) ?_
  refine lv_iconst (v := 1) hx hb dL_law_875 (by decide) ?_
  refine lv_iadd hx hb dL_law_876 ?_
  refine sb_at (P := fun z => W _ _ _ _ _ _ _ _ _ _ _ _ _ _ _ (F0 _ _ _ (.int z :: _))) (show (0 : Int32) + 1 = 1 by decide) ?_
  refine va_sld hx hb hX hbl hbA hS (vp_in_lit 1 6 (by decide)) dL_law_877 ?_
  refine xcVi E (hs := ⟨hD2, hA2⟩) hQ2 hml hl.1 0 (fX12_strike l g ad2 hD2 (M0 g ad2) (fun i hi => rfl) (xs (1 : Int32).toNatClampNeg)) mX12_strike q1914 (by decide) rfl rfl rfl ⟨(Nat.le_of_ble_eq_true rfl), (Nat.le_of_ble_eq_true rfl)⟩ ⟨(Nat.le_of_ble_eq_true rfl), (Nat.le_of_ble_eq_true rfl)⟩ (Nat.le_of_ble_eq_true rfl) rfl dL_law_878 (fun r2 S2 H locs hp2 hQ2 hk2 => ?_)
  have hS := hQ2.2
  refine lv_icmp_eq (tgt := 2159) hx hb dL_law_881 (by decide) (fun _ => ?_) (fun h => absurd (Eq.trans hp1.2 (Eq.symm hp2)) h)
  exact law_tail C0 hS hl

set_option maxHeartbeats 4000000 in
set_option maxRecDepth 100000 in
theorem law_case_22 {p : Program} {l : Launch} {e : Env} {s : State} {m : MethodId} {below : List Frame} {meth : Method} {c : Code} {b : Nat} {xs : Nat → Int32} (C0 : lw_At p s m meth c b 6 xs) {g : GG} {ad1 ad2 : Nat → Nat} (hK : KK g s) (hD1 : Dj ad1 122) (hD2 : Dj ad2 20) (hA1 : ∀ i, i < 122 → (fun q : Nat => s.heap.size ≤ q) (ad1 i)) (hA2 : ∀ i, i < 20 → (fun q : Nat => s.heap.size ≤ q) (ad2 i)) (hne : ∀ i j, i < 122 → j < 20 → ad1 i ≠ ad2 j) {H : Heap} {locs : List Loc} (hP1 : PW g ad1 122 (X0 g ad1) H) (hP2 : PW g ad2 20 (M0 g ad2) H) (hS : va_S (fun q : Nat => s.heap.size ≤ q) s.heap H locs) {ls : Array Slot} (hl : lv_has ls 4 [(0, .ref b), (1, .ref (ad1 0)), (2, .ref (ad2 0)), (3, .int 0)]) : W p l e room_1 s m #[Value.ref b] below meth c H locs 142 12631 (lw_Z below #[Value.ref b] s) (F0 m 886 ls []) := by
  obtain ⟨hx, hb, hr, hml, hown, hts, hX, hbl, hlocks, hgv⟩ := id C0
  have hbA : ¬ (fun q : Nat => s.heap.size ≤ q) b := Nat.not_le.mpr hbl
  have E : Ev p s m #[Value.ref b] c cL_law "EbbWreckLaw" g := ⟨hx, hb, hown, fun w h => hts w (List.mem_filter.mp h).1, hK⟩
  have hQ1 : Hp g ad1 122 (X0 g ad1) (fun q : Nat => s.heap.size ≤ q) s.heap H locs := ⟨hP1, hS⟩
  refine lv_aload_n hx hb dL_law_886 rfl (lv_at hl 1 rfl) ?_
  refine lv_aload_n hx hb dL_law_887 rfl (lv_at hl 0 rfl) ?_
  refine lv_iload_n hx hb dL_law_888 rfl (lv_at hl 3 rfl) ?_
  refine lv_iconst (v := 1) hx hb dL_law_889 (by decide) ?_
  refine lv_iadd hx hb dL_law_890 ?_
  refine sb_at (P := fun z => W _ _ _ _ _ _ _ _ _ _ _ _ _ _ _ (F0 _ _ _ (.int z :: _))) (show (0 : Int32) + 1 = 1 by decide) ?_
  refine va_sld hx hb hX hbl hbA hS (vp_in_lit 1 6 (by decide)) dL_law_891 ?_
  refine lv_aload_n hx hb dL_law_892 rfl (lv_at hl 0 rfl) ?_
  refine lv_iload_n hx hb dL_law_893 rfl (lv_at hl 3 rfl) ?_
  refine lv_iconst (v := 2) hx hb dL_law_894 (by decide) ?_
  refine lv_iadd hx hb dL_law_895 ?_
  refine sb_at (P := fun z => W _ _ _ _ _ _ _ _ _ _ _ _ _ _ _ (F0 _ _ _ (.int z :: _))) (show (0 : Int32) + 2 = 2 by decide) ?_
  refine va_sld hx hb hX hbl hbA hS (vp_in_lit 2 6 (by decide)) dL_law_896 ?_
  refine xcVi E (hs := ⟨hD1, hA1⟩) hQ1 hml hl.1 0 (fX11_pushes l g ad1 hD1 (X0 g ad1) (fun i hi => rfl) (xs (1 : Int32).toNatClampNeg) (xs (2 : Int32).toNatClampNeg)) mX11_pushes q1040 (by decide) rfl rfl rfl ⟨(Nat.le_of_ble_eq_true rfl), (Nat.le_of_ble_eq_true rfl)⟩ ⟨(Nat.le_of_ble_eq_true rfl), (Nat.le_of_ble_eq_true rfl)⟩ (Nat.le_of_ble_eq_true rfl) rfl dL_law_897 (fun r1 S1 H locs hp1 hQ1 hk1 => ?_)
  have hS := hQ1.2
  have hQ2 : Hp g ad2 20 (M0 g ad2) (fun q : Nat => s.heap.size ≤ q) s.heap H locs := ⟨pw_kept hP2 hk1 hne, hQ1.2⟩
  refine lv_aload_n hx hb dL_law_900 rfl (lv_at hl 2 rfl) ?_
  refine lv_aload_n hx hb dL_law_901 rfl (lv_at hl 0 rfl) ?_
  refine lv_iload_n hx hb dL_law_902 rfl (lv_at hl 3 rfl) ?_
  refine lv_iconst (v := 1) hx hb dL_law_903 (by decide) ?_
  refine lv_iadd hx hb dL_law_904 ?_
  refine sb_at (P := fun z => W _ _ _ _ _ _ _ _ _ _ _ _ _ _ _ (F0 _ _ _ (.int z :: _))) (show (0 : Int32) + 1 = 1 by decide) ?_
  refine va_sld hx hb hX hbl hbA hS (vp_in_lit 1 6 (by decide)) dL_law_905 ?_
  refine lv_aload_n hx hb dL_law_906 rfl (lv_at hl 0 rfl) ?_
  refine lv_iload_n hx hb dL_law_907 rfl (lv_at hl 3 rfl) ?_
  refine lv_iconst (v := 2) hx hb dL_law_908 (by decide) ?_
  refine lv_iadd hx hb dL_law_909 ?_
  refine sb_at (P := fun z => W _ _ _ _ _ _ _ _ _ _ _ _ _ _ _ (F0 _ _ _ (.int z :: _))) (show (0 : Int32) + 2 = 2 by decide) ?_
  refine va_sld hx hb hX hbl hbA hS (vp_in_lit 2 6 (by decide)) dL_law_910 ?_
  refine xcVi E (hs := ⟨hD2, hA2⟩) hQ2 hml hl.1 0 (fX12_pushes l g ad2 hD2 (M0 g ad2) (fun i hi => rfl) (xs (1 : Int32).toNatClampNeg) (xs (2 : Int32).toNatClampNeg)) mX12_pushes q1918 (by decide) rfl rfl rfl ⟨(Nat.le_of_ble_eq_true rfl), (Nat.le_of_ble_eq_true rfl)⟩ ⟨(Nat.le_of_ble_eq_true rfl), (Nat.le_of_ble_eq_true rfl)⟩ (Nat.le_of_ble_eq_true rfl) rfl dL_law_911 (fun r2 S2 H locs hp2 hQ2 hk2 => ?_)
  have hS := hQ2.2
  refine lv_icmp_eq (tgt := 2159) hx hb dL_law_914 (by decide) (fun _ => ?_) (fun h => absurd (Eq.trans hp1.2 (Eq.symm hp2)) h)
  exact law_tail C0 hS hl

set_option maxHeartbeats 4000000 in
set_option maxRecDepth 100000 in
theorem law_case_23 {p : Program} {l : Launch} {e : Env} {s : State} {m : MethodId} {below : List Frame} {meth : Method} {c : Code} {b : Nat} {xs : Nat → Int32} (C0 : lw_At p s m meth c b 6 xs) {g : GG} {ad1 ad2 : Nat → Nat} (hK : KK g s) (hD1 : Dj ad1 122) (hD2 : Dj ad2 20) (hA1 : ∀ i, i < 122 → (fun q : Nat => s.heap.size ≤ q) (ad1 i)) (hA2 : ∀ i, i < 20 → (fun q : Nat => s.heap.size ≤ q) (ad2 i)) (hne : ∀ i j, i < 122 → j < 20 → ad1 i ≠ ad2 j) {H : Heap} {locs : List Loc} (hP1 : PW g ad1 122 (X0 g ad1) H) (hP2 : PW g ad2 20 (M0 g ad2) H) (hS : va_S (fun q : Nat => s.heap.size ≤ q) s.heap H locs) {ls : Array Slot} (hl : lv_has ls 4 [(0, .ref b), (1, .ref (ad1 0)), (2, .ref (ad2 0)), (3, .int 0)]) : W p l e room_1 s m #[Value.ref b] below meth c H locs 142 12631 (lw_Z below #[Value.ref b] s) (F0 m 919 ls []) := by
  obtain ⟨hx, hb, hr, hml, hown, hts, hX, hbl, hlocks, hgv⟩ := id C0
  have hbA : ¬ (fun q : Nat => s.heap.size ≤ q) b := Nat.not_le.mpr hbl
  have E : Ev p s m #[Value.ref b] c cL_law "EbbWreckLaw" g := ⟨hx, hb, hown, fun w h => hts w (List.mem_filter.mp h).1, hK⟩
  have hQ1 : Hp g ad1 122 (X0 g ad1) (fun q : Nat => s.heap.size ≤ q) s.heap H locs := ⟨hP1, hS⟩
  refine lv_aload_n hx hb dL_law_919 rfl (lv_at hl 1 rfl) ?_
  refine lv_aload_n hx hb dL_law_920 rfl (lv_at hl 0 rfl) ?_
  refine lv_iload_n hx hb dL_law_921 rfl (lv_at hl 3 rfl) ?_
  refine lv_iconst (v := 1) hx hb dL_law_922 (by decide) ?_
  refine lv_iadd hx hb dL_law_923 ?_
  refine sb_at (P := fun z => W _ _ _ _ _ _ _ _ _ _ _ _ _ _ _ (F0 _ _ _ (.int z :: _))) (show (0 : Int32) + 1 = 1 by decide) ?_
  refine va_sld hx hb hX hbl hbA hS (vp_in_lit 1 6 (by decide)) dL_law_924 ?_
  refine lv_aload_n hx hb dL_law_925 rfl (lv_at hl 0 rfl) ?_
  refine lv_iload_n hx hb dL_law_926 rfl (lv_at hl 3 rfl) ?_
  refine lv_iconst (v := 2) hx hb dL_law_927 (by decide) ?_
  refine lv_iadd hx hb dL_law_928 ?_
  refine sb_at (P := fun z => W _ _ _ _ _ _ _ _ _ _ _ _ _ _ _ (F0 _ _ _ (.int z :: _))) (show (0 : Int32) + 2 = 2 by decide) ?_
  refine va_sld hx hb hX hbl hbA hS (vp_in_lit 2 6 (by decide)) dL_law_929 ?_
  refine lv_aload_n hx hb dL_law_930 rfl (lv_at hl 0 rfl) ?_
  refine lv_iload_n hx hb dL_law_931 rfl (lv_at hl 3 rfl) ?_
  refine lv_iconst (v := 3) hx hb dL_law_932 (by decide) ?_
  refine lv_iadd hx hb dL_law_933 ?_
  refine sb_at (P := fun z => W _ _ _ _ _ _ _ _ _ _ _ _ _ _ _ (F0 _ _ _ (.int z :: _))) (show (0 : Int32) + 3 = 3 by decide) ?_
  refine va_sld hx hb hX hbl hbA hS (vp_in_lit 3 6 (by decide)) dL_law_934 ?_
  refine xcVi E (hs := ⟨hD1, hA1⟩) hQ1 hml hl.1 0 (fX11_push l g ad1 hD1 (X0 g ad1) (fun i hi => rfl) (xs (1 : Int32).toNatClampNeg) (xs (2 : Int32).toNatClampNeg) (xs (3 : Int32).toNatClampNeg)) mX11_push q1073 (by decide) rfl rfl rfl ⟨(Nat.le_of_ble_eq_true rfl), (Nat.le_of_ble_eq_true rfl)⟩ ⟨(Nat.le_of_ble_eq_true rfl), (Nat.le_of_ble_eq_true rfl)⟩ (Nat.le_of_ble_eq_true rfl) rfl dL_law_935 (fun r1 S1 H locs hp1 hQ1 hk1 => ?_)
  have hS := hQ1.2
  have hQ2 : Hp g ad2 20 (M0 g ad2) (fun q : Nat => s.heap.size ≤ q) s.heap H locs := ⟨pw_kept hP2 hk1 hne, hQ1.2⟩
  refine lv_aload_n hx hb dL_law_938 rfl (lv_at hl 2 rfl) ?_
  refine lv_aload_n hx hb dL_law_939 rfl (lv_at hl 0 rfl) ?_
  refine lv_iload_n hx hb dL_law_940 rfl (lv_at hl 3 rfl) ?_
  refine lv_iconst (v := 1) hx hb dL_law_941 (by decide) ?_
  refine lv_iadd hx hb dL_law_942 ?_
  refine sb_at (P := fun z => W _ _ _ _ _ _ _ _ _ _ _ _ _ _ _ (F0 _ _ _ (.int z :: _))) (show (0 : Int32) + 1 = 1 by decide) ?_
  refine va_sld hx hb hX hbl hbA hS (vp_in_lit 1 6 (by decide)) dL_law_943 ?_
  refine lv_aload_n hx hb dL_law_944 rfl (lv_at hl 0 rfl) ?_
  refine lv_iload_n hx hb dL_law_945 rfl (lv_at hl 3 rfl) ?_
  refine lv_iconst (v := 2) hx hb dL_law_946 (by decide) ?_
  refine lv_iadd hx hb dL_law_947 ?_
  refine sb_at (P := fun z => W _ _ _ _ _ _ _ _ _ _ _ _ _ _ _ (F0 _ _ _ (.int z :: _))) (show (0 : Int32) + 2 = 2 by decide) ?_
  refine va_sld hx hb hX hbl hbA hS (vp_in_lit 2 6 (by decide)) dL_law_948 ?_
  refine lv_aload_n hx hb dL_law_949 rfl (lv_at hl 0 rfl) ?_
  refine lv_iload_n hx hb dL_law_950 rfl (lv_at hl 3 rfl) ?_
  refine lv_iconst (v := 3) hx hb dL_law_951 (by decide) ?_
  refine lv_iadd hx hb dL_law_952 ?_
  refine sb_at (P := fun z => W _ _ _ _ _ _ _ _ _ _ _ _ _ _ _ (F0 _ _ _ (.int z :: _))) (show (0 : Int32) + 3 = 3 by decide) ?_
  refine va_sld hx hb hX hbl hbA hS (vp_in_lit 3 6 (by decide)) dL_law_953 ?_
  refine xcVi E (hs := ⟨hD2, hA2⟩) hQ2 hml hl.1 0 (fX12_push l g ad2 hD2 (M0 g ad2) (fun i hi => rfl) (xs (1 : Int32).toNatClampNeg) (xs (2 : Int32).toNatClampNeg) (xs (3 : Int32).toNatClampNeg)) mX12_push q1938 (by decide) rfl rfl rfl ⟨(Nat.le_of_ble_eq_true rfl), (Nat.le_of_ble_eq_true rfl)⟩ ⟨(Nat.le_of_ble_eq_true rfl), (Nat.le_of_ble_eq_true rfl)⟩ (Nat.le_of_ble_eq_true rfl) rfl dL_law_954 (fun r2 S2 H locs hp2 hQ2 hk2 => ?_)
  have hS := hQ2.2
  refine lv_icmp_eq (tgt := 2159) hx hb dL_law_957 (by decide) (fun _ => ?_) (fun h => absurd (Eq.trans hp1.2 (Eq.symm hp2)) h)
  exact law_tail C0 hS hl

set_option maxHeartbeats 4000000 in
set_option maxRecDepth 100000 in
theorem law_case_24 {p : Program} {l : Launch} {e : Env} {s : State} {m : MethodId} {below : List Frame} {meth : Method} {c : Code} {b : Nat} {xs : Nat → Int32} (C0 : lw_At p s m meth c b 6 xs) {g : GG} {ad1 ad2 : Nat → Nat} (hK : KK g s) (hD1 : Dj ad1 122) (hD2 : Dj ad2 20) (hA1 : ∀ i, i < 122 → (fun q : Nat => s.heap.size ≤ q) (ad1 i)) (hA2 : ∀ i, i < 20 → (fun q : Nat => s.heap.size ≤ q) (ad2 i)) (hne : ∀ i j, i < 122 → j < 20 → ad1 i ≠ ad2 j) {H : Heap} {locs : List Loc} (hP1 : PW g ad1 122 (X0 g ad1) H) (hP2 : PW g ad2 20 (M0 g ad2) H) (hS : va_S (fun q : Nat => s.heap.size ≤ q) s.heap H locs) {ls : Array Slot} (hl : lv_has ls 4 [(0, .ref b), (1, .ref (ad1 0)), (2, .ref (ad2 0)), (3, .int 0)]) : W p l e room_1 s m #[Value.ref b] below meth c H locs 142 12631 (lw_Z below #[Value.ref b] s) (F0 m 962 ls []) := by
  obtain ⟨hx, hb, hr, hml, hown, hts, hX, hbl, hlocks, hgv⟩ := id C0
  have hbA : ¬ (fun q : Nat => s.heap.size ≤ q) b := Nat.not_le.mpr hbl
  have E : Ev p s m #[Value.ref b] c cL_law "EbbWreckLaw" g := ⟨hx, hb, hown, fun w h => hts w (List.mem_filter.mp h).1, hK⟩
  have hQ1 : Hp g ad1 122 (X0 g ad1) (fun q : Nat => s.heap.size ≤ q) s.heap H locs := ⟨hP1, hS⟩
  refine lv_aload_n hx hb dL_law_962 rfl (lv_at hl 1 rfl) ?_
  refine lv_aload_n hx hb dL_law_963 rfl (lv_at hl 0 rfl) ?_
  refine lv_iload_n hx hb dL_law_964 rfl (lv_at hl 3 rfl) ?_
  refine lv_iconst (v := 1) hx hb dL_law_965 (by decide) ?_
  refine lv_iadd hx hb dL_law_966 ?_
  refine sb_at (P := fun z => W _ _ _ _ _ _ _ _ _ _ _ _ _ _ _ (F0 _ _ _ (.int z :: _))) (show (0 : Int32) + 1 = 1 by decide) ?_
  refine va_sld hx hb hX hbl hbA hS (vp_in_lit 1 6 (by decide)) dL_law_967 ?_
  refine lv_aload_n hx hb dL_law_968 rfl (lv_at hl 0 rfl) ?_
  refine lv_iload_n hx hb dL_law_969 rfl (lv_at hl 3 rfl) ?_
  refine lv_iconst (v := 2) hx hb dL_law_970 (by decide) ?_
  refine lv_iadd hx hb dL_law_971 ?_
  refine sb_at (P := fun z => W _ _ _ _ _ _ _ _ _ _ _ _ _ _ _ (F0 _ _ _ (.int z :: _))) (show (0 : Int32) + 2 = 2 by decide) ?_
  refine va_sld hx hb hX hbl hbA hS (vp_in_lit 2 6 (by decide)) dL_law_972 ?_
  refine lv_aload_n hx hb dL_law_973 rfl (lv_at hl 0 rfl) ?_
  refine lv_iload_n hx hb dL_law_974 rfl (lv_at hl 3 rfl) ?_
  refine lv_iconst (v := 3) hx hb dL_law_975 (by decide) ?_
  refine lv_iadd hx hb dL_law_976 ?_
  refine sb_at (P := fun z => W _ _ _ _ _ _ _ _ _ _ _ _ _ _ _ (F0 _ _ _ (.int z :: _))) (show (0 : Int32) + 3 = 3 by decide) ?_
  refine va_sld hx hb hX hbl hbA hS (vp_in_lit 3 6 (by decide)) dL_law_977 ?_
  refine xcVi E (hs := ⟨hD1, hA1⟩) hQ1 hml hl.1 0 (fX11_way l g ad1 hD1 (X0 g ad1) (fun i hi => rfl) (xs (1 : Int32).toNatClampNeg) (xs (2 : Int32).toNatClampNeg) (xs (3 : Int32).toNatClampNeg)) mX11_way q1085 (by decide) rfl rfl rfl ⟨(Nat.le_of_ble_eq_true rfl), (Nat.le_of_ble_eq_true rfl)⟩ ⟨(Nat.le_of_ble_eq_true rfl), (Nat.le_of_ble_eq_true rfl)⟩ (Nat.le_of_ble_eq_true rfl) rfl dL_law_978 (fun r1 S1 H locs hp1 hQ1 hk1 => ?_)
  have hS := hQ1.2
  have hQ2 : Hp g ad2 20 (M0 g ad2) (fun q : Nat => s.heap.size ≤ q) s.heap H locs := ⟨pw_kept hP2 hk1 hne, hQ1.2⟩
  refine lv_aload_n hx hb dL_law_981 rfl (lv_at hl 2 rfl) ?_
  refine lv_aload_n hx hb dL_law_982 rfl (lv_at hl 0 rfl) ?_
  refine lv_iload_n hx hb dL_law_983 rfl (lv_at hl 3 rfl) ?_
  refine lv_iconst (v := 1) hx hb dL_law_984 (by decide) ?_
  refine lv_iadd hx hb dL_law_985 ?_
  refine sb_at (P := fun z => W _ _ _ _ _ _ _ _ _ _ _ _ _ _ _ (F0 _ _ _ (.int z :: _))) (show (0 : Int32) + 1 = 1 by decide) ?_
  refine va_sld hx hb hX hbl hbA hS (vp_in_lit 1 6 (by decide)) dL_law_986 ?_
  refine lv_aload_n hx hb dL_law_987 rfl (lv_at hl 0 rfl) ?_
  refine lv_iload_n hx hb dL_law_988 rfl (lv_at hl 3 rfl) ?_
  refine lv_iconst (v := 2) hx hb dL_law_989 (by decide) ?_
  refine lv_iadd hx hb dL_law_990 ?_
  refine sb_at (P := fun z => W _ _ _ _ _ _ _ _ _ _ _ _ _ _ _ (F0 _ _ _ (.int z :: _))) (show (0 : Int32) + 2 = 2 by decide) ?_
  refine va_sld hx hb hX hbl hbA hS (vp_in_lit 2 6 (by decide)) dL_law_991 ?_
  refine lv_aload_n hx hb dL_law_992 rfl (lv_at hl 0 rfl) ?_
  refine lv_iload_n hx hb dL_law_993 rfl (lv_at hl 3 rfl) ?_
  refine lv_iconst (v := 3) hx hb dL_law_994 (by decide) ?_
  refine lv_iadd hx hb dL_law_995 ?_
  refine sb_at (P := fun z => W _ _ _ _ _ _ _ _ _ _ _ _ _ _ _ (F0 _ _ _ (.int z :: _))) (show (0 : Int32) + 3 = 3 by decide) ?_
  refine va_sld hx hb hX hbl hbA hS (vp_in_lit 3 6 (by decide)) dL_law_996 ?_
  refine xcVi E (hs := ⟨hD2, hA2⟩) hQ2 hml hl.1 0 (fX12_way l g ad2 hD2 (M0 g ad2) (fun i hi => rfl) (xs (1 : Int32).toNatClampNeg) (xs (2 : Int32).toNatClampNeg) (xs (3 : Int32).toNatClampNeg)) mX12_way q1946 (by decide) rfl rfl rfl ⟨(Nat.le_of_ble_eq_true rfl), (Nat.le_of_ble_eq_true rfl)⟩ ⟨(Nat.le_of_ble_eq_true rfl), (Nat.le_of_ble_eq_true rfl)⟩ (Nat.le_of_ble_eq_true rfl) rfl dL_law_997 (fun r2 S2 H locs hp2 hQ2 hk2 => ?_)
  have hS := hQ2.2
  refine lv_icmp_eq (tgt := 2159) hx hb dL_law_1000 (by decide) (fun _ => ?_) (fun h => absurd (Eq.trans hp1.2 (Eq.symm hp2)) h)
  exact law_tail C0 hS hl

set_option maxHeartbeats 4000000 in
set_option maxRecDepth 100000 in
theorem law_case_25 {p : Program} {l : Launch} {e : Env} {s : State} {m : MethodId} {below : List Frame} {meth : Method} {c : Code} {b : Nat} {xs : Nat → Int32} (C0 : lw_At p s m meth c b 6 xs) {g : GG} {ad1 ad2 : Nat → Nat} (hK : KK g s) (hD1 : Dj ad1 122) (hD2 : Dj ad2 20) (hA1 : ∀ i, i < 122 → (fun q : Nat => s.heap.size ≤ q) (ad1 i)) (hA2 : ∀ i, i < 20 → (fun q : Nat => s.heap.size ≤ q) (ad2 i)) (hne : ∀ i j, i < 122 → j < 20 → ad1 i ≠ ad2 j) {H : Heap} {locs : List Loc} (hP1 : PW g ad1 122 (X0 g ad1) H) (hP2 : PW g ad2 20 (M0 g ad2) H) (hS : va_S (fun q : Nat => s.heap.size ≤ q) s.heap H locs) {ls : Array Slot} (hl : lv_has ls 4 [(0, .ref b), (1, .ref (ad1 0)), (2, .ref (ad2 0)), (3, .int 0)]) : W p l e room_1 s m #[Value.ref b] below meth c H locs 142 12631 (lw_Z below #[Value.ref b] s) (F0 m 1005 ls []) := by
  obtain ⟨hx, hb, hr, hml, hown, hts, hX, hbl, hlocks, hgv⟩ := id C0
  have hbA : ¬ (fun q : Nat => s.heap.size ≤ q) b := Nat.not_le.mpr hbl
  have E : Ev p s m #[Value.ref b] c cL_law "EbbWreckLaw" g := ⟨hx, hb, hown, fun w h => hts w (List.mem_filter.mp h).1, hK⟩
  have hQ1 : Hp g ad1 122 (X0 g ad1) (fun q : Nat => s.heap.size ≤ q) s.heap H locs := ⟨hP1, hS⟩
  refine lv_aload_n hx hb dL_law_1005 rfl (lv_at hl 1 rfl) ?_
  refine lv_aload_n hx hb dL_law_1006 rfl (lv_at hl 0 rfl) ?_
  refine lv_iload_n hx hb dL_law_1007 rfl (lv_at hl 3 rfl) ?_
  refine lv_iconst (v := 1) hx hb dL_law_1008 (by decide) ?_
  refine lv_iadd hx hb dL_law_1009 ?_
  refine sb_at (P := fun z => W _ _ _ _ _ _ _ _ _ _ _ _ _ _ _ (F0 _ _ _ (.int z :: _))) (show (0 : Int32) + 1 = 1 by decide) ?_
  refine va_sld hx hb hX hbl hbA hS (vp_in_lit 1 6 (by decide)) dL_law_1010 ?_
  refine lv_aload_n hx hb dL_law_1011 rfl (lv_at hl 0 rfl) ?_
  refine lv_iload_n hx hb dL_law_1012 rfl (lv_at hl 3 rfl) ?_
  refine lv_iconst (v := 2) hx hb dL_law_1013 (by decide) ?_
  refine lv_iadd hx hb dL_law_1014 ?_
  refine sb_at (P := fun z => W _ _ _ _ _ _ _ _ _ _ _ _ _ _ _ (F0 _ _ _ (.int z :: _))) (show (0 : Int32) + 2 = 2 by decide) ?_
  refine va_sld hx hb hX hbl hbA hS (vp_in_lit 2 6 (by decide)) dL_law_1015 ?_
  refine xcVi E (hs := ⟨hD1, hA1⟩) hQ1 hml hl.1 0 (fX11_soonest l g ad1 hD1 (X0 g ad1) (fun i hi => rfl) (xs (1 : Int32).toNatClampNeg) (xs (2 : Int32).toNatClampNeg)) mX11_soonest q1089 (by decide) rfl rfl rfl ⟨(Nat.le_of_ble_eq_true rfl), (Nat.le_of_ble_eq_true rfl)⟩ ⟨(Nat.le_of_ble_eq_true rfl), (Nat.le_of_ble_eq_true rfl)⟩ (Nat.le_of_ble_eq_true rfl) rfl dL_law_1016 (fun r1 S1 H locs hp1 hQ1 hk1 => ?_)
  have hS := hQ1.2
  have hQ2 : Hp g ad2 20 (M0 g ad2) (fun q : Nat => s.heap.size ≤ q) s.heap H locs := ⟨pw_kept hP2 hk1 hne, hQ1.2⟩
  refine lv_aload_n hx hb dL_law_1019 rfl (lv_at hl 2 rfl) ?_
  refine lv_aload_n hx hb dL_law_1020 rfl (lv_at hl 0 rfl) ?_
  refine lv_iload_n hx hb dL_law_1021 rfl (lv_at hl 3 rfl) ?_
  refine lv_iconst (v := 1) hx hb dL_law_1022 (by decide) ?_
  refine lv_iadd hx hb dL_law_1023 ?_
  refine sb_at (P := fun z => W _ _ _ _ _ _ _ _ _ _ _ _ _ _ _ (F0 _ _ _ (.int z :: _))) (show (0 : Int32) + 1 = 1 by decide) ?_
  refine va_sld hx hb hX hbl hbA hS (vp_in_lit 1 6 (by decide)) dL_law_1024 ?_
  refine lv_aload_n hx hb dL_law_1025 rfl (lv_at hl 0 rfl) ?_
  refine lv_iload_n hx hb dL_law_1026 rfl (lv_at hl 3 rfl) ?_
  refine lv_iconst (v := 2) hx hb dL_law_1027 (by decide) ?_
  refine lv_iadd hx hb dL_law_1028 ?_
  refine sb_at (P := fun z => W _ _ _ _ _ _ _ _ _ _ _ _ _ _ _ (F0 _ _ _ (.int z :: _))) (show (0 : Int32) + 2 = 2 by decide) ?_
  refine va_sld hx hb hX hbl hbA hS (vp_in_lit 2 6 (by decide)) dL_law_1029 ?_
  refine xcVi E (hs := ⟨hD2, hA2⟩) hQ2 hml hl.1 0 (fX12_soonest l g ad2 hD2 (M0 g ad2) (fun i hi => rfl) (xs (1 : Int32).toNatClampNeg) (xs (2 : Int32).toNatClampNeg)) mX12_soonest q1950 (by decide) rfl rfl rfl ⟨(Nat.le_of_ble_eq_true rfl), (Nat.le_of_ble_eq_true rfl)⟩ ⟨(Nat.le_of_ble_eq_true rfl), (Nat.le_of_ble_eq_true rfl)⟩ (Nat.le_of_ble_eq_true rfl) rfl dL_law_1030 (fun r2 S2 H locs hp2 hQ2 hk2 => ?_)
  have hS := hQ2.2
  refine lv_icmp_eq (tgt := 2159) hx hb dL_law_1033 (by decide) (fun _ => ?_) (fun h => absurd (Eq.trans hp1.2 (Eq.symm hp2)) h)
  exact law_tail C0 hS hl

set_option maxHeartbeats 4000000 in
set_option maxRecDepth 100000 in
theorem law_case_26 {p : Program} {l : Launch} {e : Env} {s : State} {m : MethodId} {below : List Frame} {meth : Method} {c : Code} {b : Nat} {xs : Nat → Int32} (C0 : lw_At p s m meth c b 6 xs) {g : GG} {ad1 ad2 : Nat → Nat} (hK : KK g s) (hD1 : Dj ad1 122) (hD2 : Dj ad2 20) (hA1 : ∀ i, i < 122 → (fun q : Nat => s.heap.size ≤ q) (ad1 i)) (hA2 : ∀ i, i < 20 → (fun q : Nat => s.heap.size ≤ q) (ad2 i)) (hne : ∀ i j, i < 122 → j < 20 → ad1 i ≠ ad2 j) {H : Heap} {locs : List Loc} (hP1 : PW g ad1 122 (X0 g ad1) H) (hP2 : PW g ad2 20 (M0 g ad2) H) (hS : va_S (fun q : Nat => s.heap.size ≤ q) s.heap H locs) {ls : Array Slot} (hl : lv_has ls 4 [(0, .ref b), (1, .ref (ad1 0)), (2, .ref (ad2 0)), (3, .int 0)]) : W p l e room_1 s m #[Value.ref b] below meth c H locs 142 12631 (lw_Z below #[Value.ref b] s) (F0 m 1038 ls []) := by
  obtain ⟨hx, hb, hr, hml, hown, hts, hX, hbl, hlocks, hgv⟩ := id C0
  have hbA : ¬ (fun q : Nat => s.heap.size ≤ q) b := Nat.not_le.mpr hbl
  have E : Ev p s m #[Value.ref b] c cL_law "EbbWreckLaw" g := ⟨hx, hb, hown, fun w h => hts w (List.mem_filter.mp h).1, hK⟩
  have hQ1 : Hp g ad1 122 (X0 g ad1) (fun q : Nat => s.heap.size ≤ q) s.heap H locs := ⟨hP1, hS⟩
  refine lv_aload_n hx hb dL_law_1038 rfl (lv_at hl 1 rfl) ?_
  refine lv_aload_n hx hb dL_law_1039 rfl (lv_at hl 0 rfl) ?_
  refine lv_iload_n hx hb dL_law_1040 rfl (lv_at hl 3 rfl) ?_
  refine lv_iconst (v := 1) hx hb dL_law_1041 (by decide) ?_
  refine lv_iadd hx hb dL_law_1042 ?_
  refine sb_at (P := fun z => W _ _ _ _ _ _ _ _ _ _ _ _ _ _ _ (F0 _ _ _ (.int z :: _))) (show (0 : Int32) + 1 = 1 by decide) ?_
  refine va_sld hx hb hX hbl hbA hS (vp_in_lit 1 6 (by decide)) dL_law_1043 ?_
  refine lv_aload_n hx hb dL_law_1044 rfl (lv_at hl 0 rfl) ?_
  refine lv_iload_n hx hb dL_law_1045 rfl (lv_at hl 3 rfl) ?_
  refine lv_iconst (v := 2) hx hb dL_law_1046 (by decide) ?_
  refine lv_iadd hx hb dL_law_1047 ?_
  refine sb_at (P := fun z => W _ _ _ _ _ _ _ _ _ _ _ _ _ _ _ (F0 _ _ _ (.int z :: _))) (show (0 : Int32) + 2 = 2 by decide) ?_
  refine va_sld hx hb hX hbl hbA hS (vp_in_lit 2 6 (by decide)) dL_law_1048 ?_
  refine xcVi E (hs := ⟨hD1, hA1⟩) hQ1 hml hl.1 0 (fX11_ward l g ad1 hD1 (X0 g ad1) (fun i hi => rfl) (xs (1 : Int32).toNatClampNeg) (xs (2 : Int32).toNatClampNeg)) mX11_ward q1105 (by decide) rfl rfl rfl ⟨(Nat.le_of_ble_eq_true rfl), (Nat.le_of_ble_eq_true rfl)⟩ ⟨(Nat.le_of_ble_eq_true rfl), (Nat.le_of_ble_eq_true rfl)⟩ (Nat.le_of_ble_eq_true rfl) rfl dL_law_1049 (fun r1 S1 H locs hp1 hQ1 hk1 => ?_)
  have hS := hQ1.2
  have hQ2 : Hp g ad2 20 (M0 g ad2) (fun q : Nat => s.heap.size ≤ q) s.heap H locs := ⟨pw_kept hP2 hk1 hne, hQ1.2⟩
  refine lv_aload_n hx hb dL_law_1052 rfl (lv_at hl 2 rfl) ?_
  refine lv_aload_n hx hb dL_law_1053 rfl (lv_at hl 0 rfl) ?_
  refine lv_iload_n hx hb dL_law_1054 rfl (lv_at hl 3 rfl) ?_
  refine lv_iconst (v := 1) hx hb dL_law_1055 (by decide) ?_
  refine lv_iadd hx hb dL_law_1056 ?_
  refine sb_at (P := fun z => W _ _ _ _ _ _ _ _ _ _ _ _ _ _ _ (F0 _ _ _ (.int z :: _))) (show (0 : Int32) + 1 = 1 by decide) ?_
  refine va_sld hx hb hX hbl hbA hS (vp_in_lit 1 6 (by decide)) dL_law_1057 ?_
  refine lv_aload_n hx hb dL_law_1058 rfl (lv_at hl 0 rfl) ?_
  refine lv_iload_n hx hb dL_law_1059 rfl (lv_at hl 3 rfl) ?_
  refine lv_iconst (v := 2) hx hb dL_law_1060 (by decide) ?_
  refine lv_iadd hx hb dL_law_1061 ?_
  refine sb_at (P := fun z => W _ _ _ _ _ _ _ _ _ _ _ _ _ _ _ (F0 _ _ _ (.int z :: _))) (show (0 : Int32) + 2 = 2 by decide) ?_
  refine va_sld hx hb hX hbl hbA hS (vp_in_lit 2 6 (by decide)) dL_law_1062 ?_
  refine xcVi E (hs := ⟨hD2, hA2⟩) hQ2 hml hl.1 0 (fX12_ward l g ad2 hD2 (M0 g ad2) (fun i hi => rfl) (xs (1 : Int32).toNatClampNeg) (xs (2 : Int32).toNatClampNeg)) mX12_ward q1954 (by decide) rfl rfl rfl ⟨(Nat.le_of_ble_eq_true rfl), (Nat.le_of_ble_eq_true rfl)⟩ ⟨(Nat.le_of_ble_eq_true rfl), (Nat.le_of_ble_eq_true rfl)⟩ (Nat.le_of_ble_eq_true rfl) rfl dL_law_1063 (fun r2 S2 H locs hp2 hQ2 hk2 => ?_)
  have hS := hQ2.2
  refine lv_icmp_eq (tgt := 2159) hx hb dL_law_1066 (by decide) (fun _ => ?_) (fun h => absurd (Eq.trans hp1.2 (Eq.symm hp2)) h)
  exact law_tail C0 hS hl

set_option maxHeartbeats 4000000 in
set_option maxRecDepth 100000 in
theorem law_case_27 {p : Program} {l : Launch} {e : Env} {s : State} {m : MethodId} {below : List Frame} {meth : Method} {c : Code} {b : Nat} {xs : Nat → Int32} (C0 : lw_At p s m meth c b 6 xs) {g : GG} {ad1 ad2 : Nat → Nat} (hK : KK g s) (hD1 : Dj ad1 122) (hD2 : Dj ad2 20) (hA1 : ∀ i, i < 122 → (fun q : Nat => s.heap.size ≤ q) (ad1 i)) (hA2 : ∀ i, i < 20 → (fun q : Nat => s.heap.size ≤ q) (ad2 i)) (hne : ∀ i j, i < 122 → j < 20 → ad1 i ≠ ad2 j) {H : Heap} {locs : List Loc} (hP1 : PW g ad1 122 (X0 g ad1) H) (hP2 : PW g ad2 20 (M0 g ad2) H) (hS : va_S (fun q : Nat => s.heap.size ≤ q) s.heap H locs) {ls : Array Slot} (hl : lv_has ls 4 [(0, .ref b), (1, .ref (ad1 0)), (2, .ref (ad2 0)), (3, .int 0)]) : W p l e room_1 s m #[Value.ref b] below meth c H locs 142 12631 (lw_Z below #[Value.ref b] s) (F0 m 1071 ls []) := by
  obtain ⟨hx, hb, hr, hml, hown, hts, hX, hbl, hlocks, hgv⟩ := id C0
  have hbA : ¬ (fun q : Nat => s.heap.size ≤ q) b := Nat.not_le.mpr hbl
  have E : Ev p s m #[Value.ref b] c cL_law "EbbWreckLaw" g := ⟨hx, hb, hown, fun w h => hts w (List.mem_filter.mp h).1, hK⟩
  have hQ1 : Hp g ad1 122 (X0 g ad1) (fun q : Nat => s.heap.size ≤ q) s.heap H locs := ⟨hP1, hS⟩
  refine lv_aload_n hx hb dL_law_1071 rfl (lv_at hl 1 rfl) ?_
  refine lv_aload_n hx hb dL_law_1072 rfl (lv_at hl 0 rfl) ?_
  refine lv_iload_n hx hb dL_law_1073 rfl (lv_at hl 3 rfl) ?_
  refine lv_iconst (v := 1) hx hb dL_law_1074 (by decide) ?_
  refine lv_iadd hx hb dL_law_1075 ?_
  refine sb_at (P := fun z => W _ _ _ _ _ _ _ _ _ _ _ _ _ _ _ (F0 _ _ _ (.int z :: _))) (show (0 : Int32) + 1 = 1 by decide) ?_
  refine va_sld hx hb hX hbl hbA hS (vp_in_lit 1 6 (by decide)) dL_law_1076 ?_
  refine xcVi E (hs := ⟨hD1, hA1⟩) hQ1 hml hl.1 0 (fX11_all l g ad1 hD1 (X0 g ad1) (fun i hi => rfl) (xs (1 : Int32).toNatClampNeg)) mX11_all q1109 (by decide) rfl rfl rfl ⟨(Nat.le_of_ble_eq_true rfl), (Nat.le_of_ble_eq_true rfl)⟩ ⟨(Nat.le_of_ble_eq_true rfl), (Nat.le_of_ble_eq_true rfl)⟩ (Nat.le_of_ble_eq_true rfl) rfl dL_law_1077 (fun r1 S1 H locs hp1 hQ1 hk1 => ?_)
  have hS := hQ1.2
  have hQ2 : Hp g ad2 20 (M0 g ad2) (fun q : Nat => s.heap.size ≤ q) s.heap H locs := ⟨pw_kept hP2 hk1 hne, hQ1.2⟩
  refine lv_aload_n hx hb dL_law_1080 rfl (lv_at hl 2 rfl) ?_
  refine lv_aload_n hx hb dL_law_1081 rfl (lv_at hl 0 rfl) ?_
  refine lv_iload_n hx hb dL_law_1082 rfl (lv_at hl 3 rfl) ?_
  refine lv_iconst (v := 1) hx hb dL_law_1083 (by decide) ?_
  refine lv_iadd hx hb dL_law_1084 ?_
  refine sb_at (P := fun z => W _ _ _ _ _ _ _ _ _ _ _ _ _ _ _ (F0 _ _ _ (.int z :: _))) (show (0 : Int32) + 1 = 1 by decide) ?_
  refine va_sld hx hb hX hbl hbA hS (vp_in_lit 1 6 (by decide)) dL_law_1085 ?_
  refine xcVi E (hs := ⟨hD2, hA2⟩) hQ2 hml hl.1 0 (fX12_all l g ad2 hD2 (M0 g ad2) (fun i hi => rfl) (xs (1 : Int32).toNatClampNeg)) mX12_all q1962 (by decide) rfl rfl rfl ⟨(Nat.le_of_ble_eq_true rfl), (Nat.le_of_ble_eq_true rfl)⟩ ⟨(Nat.le_of_ble_eq_true rfl), (Nat.le_of_ble_eq_true rfl)⟩ (Nat.le_of_ble_eq_true rfl) rfl dL_law_1086 (fun r2 S2 H locs hp2 hQ2 hk2 => ?_)
  have hS := hQ2.2
  refine lv_icmp_eq (tgt := 2159) hx hb dL_law_1089 (by decide) (fun _ => ?_) (fun h => absurd (Eq.trans hp1.2 (Eq.symm hp2)) h)
  exact law_tail C0 hS hl

set_option maxHeartbeats 4000000 in
set_option maxRecDepth 100000 in
theorem law_case_28 {p : Program} {l : Launch} {e : Env} {s : State} {m : MethodId} {below : List Frame} {meth : Method} {c : Code} {b : Nat} {xs : Nat → Int32} (C0 : lw_At p s m meth c b 6 xs) {g : GG} {ad1 ad2 : Nat → Nat} (hK : KK g s) (hD1 : Dj ad1 122) (hD2 : Dj ad2 20) (hA1 : ∀ i, i < 122 → (fun q : Nat => s.heap.size ≤ q) (ad1 i)) (hA2 : ∀ i, i < 20 → (fun q : Nat => s.heap.size ≤ q) (ad2 i)) (hne : ∀ i j, i < 122 → j < 20 → ad1 i ≠ ad2 j) {H : Heap} {locs : List Loc} (hP1 : PW g ad1 122 (X0 g ad1) H) (hP2 : PW g ad2 20 (M0 g ad2) H) (hS : va_S (fun q : Nat => s.heap.size ≤ q) s.heap H locs) {ls : Array Slot} (hl : lv_has ls 4 [(0, .ref b), (1, .ref (ad1 0)), (2, .ref (ad2 0)), (3, .int 0)]) : W p l e room_1 s m #[Value.ref b] below meth c H locs 142 12631 (lw_Z below #[Value.ref b] s) (F0 m 1094 ls []) := by
  obtain ⟨hx, hb, hr, hml, hown, hts, hX, hbl, hlocks, hgv⟩ := id C0
  have hbA : ¬ (fun q : Nat => s.heap.size ≤ q) b := Nat.not_le.mpr hbl
  have E : Ev p s m #[Value.ref b] c cL_law "EbbWreckLaw" g := ⟨hx, hb, hown, fun w h => hts w (List.mem_filter.mp h).1, hK⟩
  have hQ1 : Hp g ad1 122 (X0 g ad1) (fun q : Nat => s.heap.size ≤ q) s.heap H locs := ⟨hP1, hS⟩
  refine lv_aload_n hx hb dL_law_1094 rfl (lv_at hl 1 rfl) ?_
  refine xcVi E (hs := ⟨hD1, hA1⟩) hQ1 hml hl.1 0 (fX11_richest l g ad1 hD1 (X0 g ad1) (fun i hi => rfl)) mX11_richest q980 (by decide) rfl rfl rfl ⟨(Nat.le_of_ble_eq_true rfl), (Nat.le_of_ble_eq_true rfl)⟩ ⟨(Nat.le_of_ble_eq_true rfl), (Nat.le_of_ble_eq_true rfl)⟩ (Nat.le_of_ble_eq_true rfl) rfl dL_law_1095 (fun r1 S1 H locs hp1 hQ1 hk1 => ?_)
  have hS := hQ1.2
  have hQ2 : Hp g ad2 20 (M0 g ad2) (fun q : Nat => s.heap.size ≤ q) s.heap H locs := ⟨pw_kept hP2 hk1 hne, hQ1.2⟩
  refine lv_aload_n hx hb dL_law_1098 rfl (lv_at hl 2 rfl) ?_
  refine xcVi E (hs := ⟨hD2, hA2⟩) hQ2 hml hl.1 0 (fX12_richest l g ad2 hD2 (M0 g ad2) (fun i hi => rfl)) mX12_richest q1966 (by decide) rfl rfl rfl ⟨(Nat.le_of_ble_eq_true rfl), (Nat.le_of_ble_eq_true rfl)⟩ ⟨(Nat.le_of_ble_eq_true rfl), (Nat.le_of_ble_eq_true rfl)⟩ (Nat.le_of_ble_eq_true rfl) rfl dL_law_1099 (fun r2 S2 H locs hp2 hQ2 hk2 => ?_)
  have hS := hQ2.2
  refine lv_icmp_eq (tgt := 2159) hx hb dL_law_1102 (by decide) (fun _ => ?_) (fun h => absurd (Eq.trans hp1.2 (Eq.symm hp2)) h)
  exact law_tail C0 hS hl

set_option maxHeartbeats 4000000 in
set_option maxRecDepth 100000 in
theorem law_case_29 {p : Program} {l : Launch} {e : Env} {s : State} {m : MethodId} {below : List Frame} {meth : Method} {c : Code} {b : Nat} {xs : Nat → Int32} (C0 : lw_At p s m meth c b 6 xs) {g : GG} {ad1 ad2 : Nat → Nat} (hK : KK g s) (hD1 : Dj ad1 122) (hD2 : Dj ad2 20) (hA1 : ∀ i, i < 122 → (fun q : Nat => s.heap.size ≤ q) (ad1 i)) (hA2 : ∀ i, i < 20 → (fun q : Nat => s.heap.size ≤ q) (ad2 i)) (hne : ∀ i j, i < 122 → j < 20 → ad1 i ≠ ad2 j) {H : Heap} {locs : List Loc} (hP1 : PW g ad1 122 (X0 g ad1) H) (hP2 : PW g ad2 20 (M0 g ad2) H) (hS : va_S (fun q : Nat => s.heap.size ≤ q) s.heap H locs) {ls : Array Slot} (hl : lv_has ls 4 [(0, .ref b), (1, .ref (ad1 0)), (2, .ref (ad2 0)), (3, .int 0)]) : W p l e room_1 s m #[Value.ref b] below meth c H locs 142 12631 (lw_Z below #[Value.ref b] s) (F0 m 1107 ls []) := by
  obtain ⟨hx, hb, hr, hml, hown, hts, hX, hbl, hlocks, hgv⟩ := id C0
  have hbA : ¬ (fun q : Nat => s.heap.size ≤ q) b := Nat.not_le.mpr hbl
  have E : Ev p s m #[Value.ref b] c cL_law "EbbWreckLaw" g := ⟨hx, hb, hown, fun w h => hts w (List.mem_filter.mp h).1, hK⟩
  have hQ1 : Hp g ad1 122 (X0 g ad1) (fun q : Nat => s.heap.size ≤ q) s.heap H locs := ⟨hP1, hS⟩
  refine lv_aload_n hx hb dL_law_1107 rfl (lv_at hl 1 rfl) ?_
  refine lv_aload_n hx hb dL_law_1108 rfl (lv_at hl 0 rfl) ?_
  refine lv_iload_n hx hb dL_law_1109 rfl (lv_at hl 3 rfl) ?_
  refine lv_iconst (v := 1) hx hb dL_law_1110 (by decide) ?_
  refine lv_iadd hx hb dL_law_1111 ?_
  refine sb_at (P := fun z => W _ _ _ _ _ _ _ _ _ _ _ _ _ _ _ (F0 _ _ _ (.int z :: _))) (show (0 : Int32) + 1 = 1 by decide) ?_
  refine va_sld hx hb hX hbl hbA hS (vp_in_lit 1 6 (by decide)) dL_law_1112 ?_
  refine lv_aload_n hx hb dL_law_1113 rfl (lv_at hl 0 rfl) ?_
  refine lv_iload_n hx hb dL_law_1114 rfl (lv_at hl 3 rfl) ?_
  refine lv_iconst (v := 2) hx hb dL_law_1115 (by decide) ?_
  refine lv_iadd hx hb dL_law_1116 ?_
  refine sb_at (P := fun z => W _ _ _ _ _ _ _ _ _ _ _ _ _ _ _ (F0 _ _ _ (.int z :: _))) (show (0 : Int32) + 2 = 2 by decide) ?_
  refine va_sld hx hb hX hbl hbA hS (vp_in_lit 2 6 (by decide)) dL_law_1117 ?_
  refine xcVi E (hs := ⟨hD1, hA1⟩) hQ1 hml hl.1 0 (fX11_meet l g ad1 hD1 (X0 g ad1) (fun i hi => rfl) (xs (1 : Int32).toNatClampNeg) (xs (2 : Int32).toNatClampNeg)) mX11_meet q984 (by decide) rfl rfl rfl ⟨(Nat.le_of_ble_eq_true rfl), (Nat.le_of_ble_eq_true rfl)⟩ ⟨(Nat.le_of_ble_eq_true rfl), (Nat.le_of_ble_eq_true rfl)⟩ (Nat.le_of_ble_eq_true rfl) rfl dL_law_1118 (fun r1 S1 H locs hp1 hQ1 hk1 => ?_)
  have hS := hQ1.2
  have hQ2 : Hp g ad2 20 (M0 g ad2) (fun q : Nat => s.heap.size ≤ q) s.heap H locs := ⟨pw_kept hP2 hk1 hne, hQ1.2⟩
  refine lv_aload_n hx hb dL_law_1121 rfl (lv_at hl 2 rfl) ?_
  refine lv_aload_n hx hb dL_law_1122 rfl (lv_at hl 0 rfl) ?_
  refine lv_iload_n hx hb dL_law_1123 rfl (lv_at hl 3 rfl) ?_
  refine lv_iconst (v := 1) hx hb dL_law_1124 (by decide) ?_
  refine lv_iadd hx hb dL_law_1125 ?_
  refine sb_at (P := fun z => W _ _ _ _ _ _ _ _ _ _ _ _ _ _ _ (F0 _ _ _ (.int z :: _))) (show (0 : Int32) + 1 = 1 by decide) ?_
  refine va_sld hx hb hX hbl hbA hS (vp_in_lit 1 6 (by decide)) dL_law_1126 ?_
  refine lv_aload_n hx hb dL_law_1127 rfl (lv_at hl 0 rfl) ?_
  refine lv_iload_n hx hb dL_law_1128 rfl (lv_at hl 3 rfl) ?_
  refine lv_iconst (v := 2) hx hb dL_law_1129 (by decide) ?_
  refine lv_iadd hx hb dL_law_1130 ?_
  refine sb_at (P := fun z => W _ _ _ _ _ _ _ _ _ _ _ _ _ _ _ (F0 _ _ _ (.int z :: _))) (show (0 : Int32) + 2 = 2 by decide) ?_
  refine va_sld hx hb hX hbl hbA hS (vp_in_lit 2 6 (by decide)) dL_law_1131 ?_
  refine xcVi E (hs := ⟨hD2, hA2⟩) hQ2 hml hl.1 0 (fX12_meet l g ad2 hD2 (M0 g ad2) (fun i hi => rfl) (xs (1 : Int32).toNatClampNeg) (xs (2 : Int32).toNatClampNeg)) mX12_meet q1970 (by decide) rfl rfl rfl ⟨(Nat.le_of_ble_eq_true rfl), (Nat.le_of_ble_eq_true rfl)⟩ ⟨(Nat.le_of_ble_eq_true rfl), (Nat.le_of_ble_eq_true rfl)⟩ (Nat.le_of_ble_eq_true rfl) rfl dL_law_1132 (fun r2 S2 H locs hp2 hQ2 hk2 => ?_)
  have hS := hQ2.2
  refine lv_icmp_eq (tgt := 2159) hx hb dL_law_1135 (by decide) (fun _ => ?_) (fun h => absurd (Eq.trans hp1.2 (Eq.symm hp2)) h)
  exact law_tail C0 hS hl

set_option maxHeartbeats 4000000 in
set_option maxRecDepth 100000 in
theorem law_case_30 {p : Program} {l : Launch} {e : Env} {s : State} {m : MethodId} {below : List Frame} {meth : Method} {c : Code} {b : Nat} {xs : Nat → Int32} (C0 : lw_At p s m meth c b 6 xs) {g : GG} {ad1 ad2 : Nat → Nat} (hK : KK g s) (hD1 : Dj ad1 122) (hD2 : Dj ad2 20) (hA1 : ∀ i, i < 122 → (fun q : Nat => s.heap.size ≤ q) (ad1 i)) (hA2 : ∀ i, i < 20 → (fun q : Nat => s.heap.size ≤ q) (ad2 i)) (hne : ∀ i j, i < 122 → j < 20 → ad1 i ≠ ad2 j) {H : Heap} {locs : List Loc} (hP1 : PW g ad1 122 (X0 g ad1) H) (hP2 : PW g ad2 20 (M0 g ad2) H) (hS : va_S (fun q : Nat => s.heap.size ≤ q) s.heap H locs) {ls : Array Slot} (hl : lv_has ls 4 [(0, .ref b), (1, .ref (ad1 0)), (2, .ref (ad2 0)), (3, .int 0)]) : W p l e room_1 s m #[Value.ref b] below meth c H locs 142 12631 (lw_Z below #[Value.ref b] s) (F0 m 1140 ls []) := by
  obtain ⟨hx, hb, hr, hml, hown, hts, hX, hbl, hlocks, hgv⟩ := id C0
  have hbA : ¬ (fun q : Nat => s.heap.size ≤ q) b := Nat.not_le.mpr hbl
  have E : Ev p s m #[Value.ref b] c cL_law "EbbWreckLaw" g := ⟨hx, hb, hown, fun w h => hts w (List.mem_filter.mp h).1, hK⟩
  have hQ1 : Hp g ad1 122 (X0 g ad1) (fun q : Nat => s.heap.size ≤ q) s.heap H locs := ⟨hP1, hS⟩
  refine lv_aload_n hx hb dL_law_1140 rfl (lv_at hl 1 rfl) ?_
  refine lv_aload_n hx hb dL_law_1141 rfl (lv_at hl 0 rfl) ?_
  refine lv_iload_n hx hb dL_law_1142 rfl (lv_at hl 3 rfl) ?_
  refine lv_iconst (v := 1) hx hb dL_law_1143 (by decide) ?_
  refine lv_iadd hx hb dL_law_1144 ?_
  refine sb_at (P := fun z => W _ _ _ _ _ _ _ _ _ _ _ _ _ _ _ (F0 _ _ _ (.int z :: _))) (show (0 : Int32) + 1 = 1 by decide) ?_
  refine va_sld hx hb hX hbl hbA hS (vp_in_lit 1 6 (by decide)) dL_law_1145 ?_
  refine xcVi E (hs := ⟨hD1, hA1⟩) hQ1 hml hl.1 0 (fX11_lasts l g ad1 hD1 (X0 g ad1) (fun i hi => rfl) (xs (1 : Int32).toNatClampNeg)) mX11_lasts q900 (by decide) rfl rfl rfl ⟨(Nat.le_of_ble_eq_true rfl), (Nat.le_of_ble_eq_true rfl)⟩ ⟨(Nat.le_of_ble_eq_true rfl), (Nat.le_of_ble_eq_true rfl)⟩ (Nat.le_of_ble_eq_true rfl) rfl dL_law_1146 (fun r1 S1 H locs hp1 hQ1 hk1 => ?_)
  have hS := hQ1.2
  have hQ2 : Hp g ad2 20 (M0 g ad2) (fun q : Nat => s.heap.size ≤ q) s.heap H locs := ⟨pw_kept hP2 hk1 hne, hQ1.2⟩
  refine lv_aload_n hx hb dL_law_1149 rfl (lv_at hl 2 rfl) ?_
  refine lv_aload_n hx hb dL_law_1150 rfl (lv_at hl 0 rfl) ?_
  refine lv_iload_n hx hb dL_law_1151 rfl (lv_at hl 3 rfl) ?_
  refine lv_iconst (v := 1) hx hb dL_law_1152 (by decide) ?_
  refine lv_iadd hx hb dL_law_1153 ?_
  refine sb_at (P := fun z => W _ _ _ _ _ _ _ _ _ _ _ _ _ _ _ (F0 _ _ _ (.int z :: _))) (show (0 : Int32) + 1 = 1 by decide) ?_
  refine va_sld hx hb hX hbl hbA hS (vp_in_lit 1 6 (by decide)) dL_law_1154 ?_
  refine xcVi E (hs := ⟨hD2, hA2⟩) hQ2 hml hl.1 0 (fX12_lasts l g ad2 hD2 (M0 g ad2) (fun i hi => rfl) (xs (1 : Int32).toNatClampNeg)) mX12_lasts q1974 (by decide) rfl rfl rfl ⟨(Nat.le_of_ble_eq_true rfl), (Nat.le_of_ble_eq_true rfl)⟩ ⟨(Nat.le_of_ble_eq_true rfl), (Nat.le_of_ble_eq_true rfl)⟩ (Nat.le_of_ble_eq_true rfl) rfl dL_law_1155 (fun r2 S2 H locs hp2 hQ2 hk2 => ?_)
  have hS := hQ2.2
  refine lv_icmp_eq (tgt := 2159) hx hb dL_law_1158 (by decide) (fun _ => ?_) (fun h => absurd (Eq.trans hp1.2 (Eq.symm hp2)) h)
  exact law_tail C0 hS hl

set_option maxHeartbeats 4000000 in
set_option maxRecDepth 100000 in
theorem law_case_31 {p : Program} {l : Launch} {e : Env} {s : State} {m : MethodId} {below : List Frame} {meth : Method} {c : Code} {b : Nat} {xs : Nat → Int32} (C0 : lw_At p s m meth c b 6 xs) {g : GG} {ad1 ad2 : Nat → Nat} (hK : KK g s) (hD1 : Dj ad1 122) (hD2 : Dj ad2 20) (hA1 : ∀ i, i < 122 → (fun q : Nat => s.heap.size ≤ q) (ad1 i)) (hA2 : ∀ i, i < 20 → (fun q : Nat => s.heap.size ≤ q) (ad2 i)) (hne : ∀ i j, i < 122 → j < 20 → ad1 i ≠ ad2 j) {H : Heap} {locs : List Loc} (hP1 : PW g ad1 122 (X0 g ad1) H) (hP2 : PW g ad2 20 (M0 g ad2) H) (hS : va_S (fun q : Nat => s.heap.size ≤ q) s.heap H locs) {ls : Array Slot} (hl : lv_has ls 4 [(0, .ref b), (1, .ref (ad1 0)), (2, .ref (ad2 0)), (3, .int 0)]) : W p l e room_1 s m #[Value.ref b] below meth c H locs 142 12631 (lw_Z below #[Value.ref b] s) (F0 m 1163 ls []) := by
  obtain ⟨hx, hb, hr, hml, hown, hts, hX, hbl, hlocks, hgv⟩ := id C0
  have hbA : ¬ (fun q : Nat => s.heap.size ≤ q) b := Nat.not_le.mpr hbl
  have E : Ev p s m #[Value.ref b] c cL_law "EbbWreckLaw" g := ⟨hx, hb, hown, fun w h => hts w (List.mem_filter.mp h).1, hK⟩
  have hQ1 : Hp g ad1 122 (X0 g ad1) (fun q : Nat => s.heap.size ≤ q) s.heap H locs := ⟨hP1, hS⟩
  refine lv_aload_n hx hb dL_law_1163 rfl (lv_at hl 1 rfl) ?_
  refine lv_aload_n hx hb dL_law_1164 rfl (lv_at hl 0 rfl) ?_
  refine lv_iload_n hx hb dL_law_1165 rfl (lv_at hl 3 rfl) ?_
  refine lv_iconst (v := 1) hx hb dL_law_1166 (by decide) ?_
  refine lv_iadd hx hb dL_law_1167 ?_
  refine sb_at (P := fun z => W _ _ _ _ _ _ _ _ _ _ _ _ _ _ _ (F0 _ _ _ (.int z :: _))) (show (0 : Int32) + 1 = 1 by decide) ?_
  refine va_sld hx hb hX hbl hbA hS (vp_in_lit 1 6 (by decide)) dL_law_1168 ?_
  refine xcVi E (hs := ⟨hD1, hA1⟩) hQ1 hml hl.1 0 (fX11_slacks l g ad1 hD1 (X0 g ad1) (fun i hi => rfl) (xs (1 : Int32).toNatClampNeg)) mX11_slacks q908 (by decide) rfl rfl rfl ⟨(Nat.le_of_ble_eq_true rfl), (Nat.le_of_ble_eq_true rfl)⟩ ⟨(Nat.le_of_ble_eq_true rfl), (Nat.le_of_ble_eq_true rfl)⟩ (Nat.le_of_ble_eq_true rfl) rfl dL_law_1169 (fun r1 S1 H locs hp1 hQ1 hk1 => ?_)
  have hS := hQ1.2
  have hQ2 : Hp g ad2 20 (M0 g ad2) (fun q : Nat => s.heap.size ≤ q) s.heap H locs := ⟨pw_kept hP2 hk1 hne, hQ1.2⟩
  refine lv_aload_n hx hb dL_law_1172 rfl (lv_at hl 2 rfl) ?_
  refine lv_aload_n hx hb dL_law_1173 rfl (lv_at hl 0 rfl) ?_
  refine lv_iload_n hx hb dL_law_1174 rfl (lv_at hl 3 rfl) ?_
  refine lv_iconst (v := 1) hx hb dL_law_1175 (by decide) ?_
  refine lv_iadd hx hb dL_law_1176 ?_
  refine sb_at (P := fun z => W _ _ _ _ _ _ _ _ _ _ _ _ _ _ _ (F0 _ _ _ (.int z :: _))) (show (0 : Int32) + 1 = 1 by decide) ?_
  refine va_sld hx hb hX hbl hbA hS (vp_in_lit 1 6 (by decide)) dL_law_1177 ?_
  refine xcVi E (hs := ⟨hD2, hA2⟩) hQ2 hml hl.1 0 (fX12_slacks l g ad2 hD2 (M0 g ad2) (fun i hi => rfl) (xs (1 : Int32).toNatClampNeg)) mX12_slacks q1978 (by decide) rfl rfl rfl ⟨(Nat.le_of_ble_eq_true rfl), (Nat.le_of_ble_eq_true rfl)⟩ ⟨(Nat.le_of_ble_eq_true rfl), (Nat.le_of_ble_eq_true rfl)⟩ (Nat.le_of_ble_eq_true rfl) rfl dL_law_1178 (fun r2 S2 H locs hp2 hQ2 hk2 => ?_)
  have hS := hQ2.2
  refine lv_icmp_eq (tgt := 2159) hx hb dL_law_1181 (by decide) (fun _ => ?_) (fun h => absurd (Eq.trans hp1.2 (Eq.symm hp2)) h)
  exact law_tail C0 hS hl

set_option maxHeartbeats 4000000 in
set_option maxRecDepth 100000 in
theorem law_case_32 {p : Program} {l : Launch} {e : Env} {s : State} {m : MethodId} {below : List Frame} {meth : Method} {c : Code} {b : Nat} {xs : Nat → Int32} (C0 : lw_At p s m meth c b 6 xs) {g : GG} {ad1 ad2 : Nat → Nat} (hK : KK g s) (hD1 : Dj ad1 122) (hD2 : Dj ad2 20) (hA1 : ∀ i, i < 122 → (fun q : Nat => s.heap.size ≤ q) (ad1 i)) (hA2 : ∀ i, i < 20 → (fun q : Nat => s.heap.size ≤ q) (ad2 i)) (hne : ∀ i j, i < 122 → j < 20 → ad1 i ≠ ad2 j) {H : Heap} {locs : List Loc} (hP1 : PW g ad1 122 (X0 g ad1) H) (hP2 : PW g ad2 20 (M0 g ad2) H) (hS : va_S (fun q : Nat => s.heap.size ≤ q) s.heap H locs) {ls : Array Slot} (hl : lv_has ls 4 [(0, .ref b), (1, .ref (ad1 0)), (2, .ref (ad2 0)), (3, .int 0)]) : W p l e room_1 s m #[Value.ref b] below meth c H locs 142 12631 (lw_Z below #[Value.ref b] s) (F0 m 1186 ls []) := by
  obtain ⟨hx, hb, hr, hml, hown, hts, hX, hbl, hlocks, hgv⟩ := id C0
  have hbA : ¬ (fun q : Nat => s.heap.size ≤ q) b := Nat.not_le.mpr hbl
  have E : Ev p s m #[Value.ref b] c cL_law "EbbWreckLaw" g := ⟨hx, hb, hown, fun w h => hts w (List.mem_filter.mp h).1, hK⟩
  have hQ1 : Hp g ad1 122 (X0 g ad1) (fun q : Nat => s.heap.size ≤ q) s.heap H locs := ⟨hP1, hS⟩
  refine lv_aload_n hx hb dL_law_1186 rfl (lv_at hl 1 rfl) ?_
  refine lv_aload_n hx hb dL_law_1187 rfl (lv_at hl 0 rfl) ?_
  refine lv_iload_n hx hb dL_law_1188 rfl (lv_at hl 3 rfl) ?_
  refine lv_iconst (v := 1) hx hb dL_law_1189 (by decide) ?_
  refine lv_iadd hx hb dL_law_1190 ?_
  refine sb_at (P := fun z => W _ _ _ _ _ _ _ _ _ _ _ _ _ _ _ (F0 _ _ _ (.int z :: _))) (show (0 : Int32) + 1 = 1 by decide) ?_
  refine va_sld hx hb hX hbl hbA hS (vp_in_lit 1 6 (by decide)) dL_law_1191 ?_
  refine xcVi E (hs := ⟨hD1, hA1⟩) hQ1 hml hl.1 0 (fX11_eddy l g ad1 hD1 (X0 g ad1) (fun i hi => rfl) (xs (1 : Int32).toNatClampNeg)) mX11_eddy q1117 (by decide) rfl rfl rfl ⟨(Nat.le_of_ble_eq_true rfl), (Nat.le_of_ble_eq_true rfl)⟩ ⟨(Nat.le_of_ble_eq_true rfl), (Nat.le_of_ble_eq_true rfl)⟩ (Nat.le_of_ble_eq_true rfl) rfl dL_law_1192 (fun r1 S1 H locs hp1 hQ1 hk1 => ?_)
  have hS := hQ1.2
  have hQ2 : Hp g ad2 20 (M0 g ad2) (fun q : Nat => s.heap.size ≤ q) s.heap H locs := ⟨pw_kept hP2 hk1 hne, hQ1.2⟩
  refine lv_aload_n hx hb dL_law_1195 rfl (lv_at hl 2 rfl) ?_
  refine lv_aload_n hx hb dL_law_1196 rfl (lv_at hl 0 rfl) ?_
  refine lv_iload_n hx hb dL_law_1197 rfl (lv_at hl 3 rfl) ?_
  refine lv_iconst (v := 1) hx hb dL_law_1198 (by decide) ?_
  refine lv_iadd hx hb dL_law_1199 ?_
  refine sb_at (P := fun z => W _ _ _ _ _ _ _ _ _ _ _ _ _ _ _ (F0 _ _ _ (.int z :: _))) (show (0 : Int32) + 1 = 1 by decide) ?_
  refine va_sld hx hb hX hbl hbA hS (vp_in_lit 1 6 (by decide)) dL_law_1200 ?_
  refine xcVi E (hs := ⟨hD2, hA2⟩) hQ2 hml hl.1 0 (fX12_eddy l g ad2 hD2 (M0 g ad2) (fun i hi => rfl) (xs (1 : Int32).toNatClampNeg)) mX12_eddy q1982 (by decide) rfl rfl rfl ⟨(Nat.le_of_ble_eq_true rfl), (Nat.le_of_ble_eq_true rfl)⟩ ⟨(Nat.le_of_ble_eq_true rfl), (Nat.le_of_ble_eq_true rfl)⟩ (Nat.le_of_ble_eq_true rfl) rfl dL_law_1201 (fun r2 S2 H locs hp2 hQ2 hk2 => ?_)
  have hS := hQ2.2
  refine lv_icmp_eq (tgt := 2159) hx hb dL_law_1204 (by decide) (fun _ => ?_) (fun h => absurd (Eq.trans hp1.2 (Eq.symm hp2)) h)
  exact law_tail C0 hS hl

set_option maxHeartbeats 4000000 in
set_option maxRecDepth 100000 in
theorem law_case_33 {p : Program} {l : Launch} {e : Env} {s : State} {m : MethodId} {below : List Frame} {meth : Method} {c : Code} {b : Nat} {xs : Nat → Int32} (C0 : lw_At p s m meth c b 6 xs) {g : GG} {ad1 ad2 : Nat → Nat} (hK : KK g s) (hD1 : Dj ad1 122) (hD2 : Dj ad2 20) (hA1 : ∀ i, i < 122 → (fun q : Nat => s.heap.size ≤ q) (ad1 i)) (hA2 : ∀ i, i < 20 → (fun q : Nat => s.heap.size ≤ q) (ad2 i)) (hne : ∀ i j, i < 122 → j < 20 → ad1 i ≠ ad2 j) {H : Heap} {locs : List Loc} (hP1 : PW g ad1 122 (X0 g ad1) H) (hP2 : PW g ad2 20 (M0 g ad2) H) (hS : va_S (fun q : Nat => s.heap.size ≤ q) s.heap H locs) {ls : Array Slot} (hl : lv_has ls 4 [(0, .ref b), (1, .ref (ad1 0)), (2, .ref (ad2 0)), (3, .int 0)]) : W p l e room_1 s m #[Value.ref b] below meth c H locs 142 12631 (lw_Z below #[Value.ref b] s) (F0 m 1209 ls []) := by
  obtain ⟨hx, hb, hr, hml, hown, hts, hX, hbl, hlocks, hgv⟩ := id C0
  have hbA : ¬ (fun q : Nat => s.heap.size ≤ q) b := Nat.not_le.mpr hbl
  have E : Ev p s m #[Value.ref b] c cL_law "EbbWreckLaw" g := ⟨hx, hb, hown, fun w h => hts w (List.mem_filter.mp h).1, hK⟩
  have hQ1 : Hp g ad1 122 (X0 g ad1) (fun q : Nat => s.heap.size ≤ q) s.heap H locs := ⟨hP1, hS⟩
  refine lv_aload_n hx hb dL_law_1209 rfl (lv_at hl 1 rfl) ?_
  refine xcVi E (hs := ⟨hD1, hA1⟩) hQ1 hml hl.1 0 (fX11_stuck l g ad1 hD1 (X0 g ad1) (fun i hi => rfl)) mX11_stuck q1127 (by decide) rfl rfl rfl ⟨(Nat.le_of_ble_eq_true rfl), (Nat.le_of_ble_eq_true rfl)⟩ ⟨(Nat.le_of_ble_eq_true rfl), (Nat.le_of_ble_eq_true rfl)⟩ (Nat.le_of_ble_eq_true rfl) rfl dL_law_1210 (fun r1 S1 H locs hp1 hQ1 hk1 => ?_)
  have hS := hQ1.2
  have hQ2 : Hp g ad2 20 (M0 g ad2) (fun q : Nat => s.heap.size ≤ q) s.heap H locs := ⟨pw_kept hP2 hk1 hne, hQ1.2⟩
  refine lv_aload_n hx hb dL_law_1213 rfl (lv_at hl 2 rfl) ?_
  refine xcVi E (hs := ⟨hD2, hA2⟩) hQ2 hml hl.1 0 (fX12_stuck l g ad2 hD2 (M0 g ad2) (fun i hi => rfl)) mX12_stuck q1990 (by decide) rfl rfl rfl ⟨(Nat.le_of_ble_eq_true rfl), (Nat.le_of_ble_eq_true rfl)⟩ ⟨(Nat.le_of_ble_eq_true rfl), (Nat.le_of_ble_eq_true rfl)⟩ (Nat.le_of_ble_eq_true rfl) rfl dL_law_1214 (fun r2 S2 H locs hp2 hQ2 hk2 => ?_)
  have hS := hQ2.2
  refine lv_icmp_eq (tgt := 2159) hx hb dL_law_1217 (by decide) (fun _ => ?_) (fun h => absurd (Eq.trans hp1.2 (Eq.symm hp2)) h)
  exact law_tail C0 hS hl

set_option maxHeartbeats 4000000 in
set_option maxRecDepth 100000 in
theorem law_case_34 {p : Program} {l : Launch} {e : Env} {s : State} {m : MethodId} {below : List Frame} {meth : Method} {c : Code} {b : Nat} {xs : Nat → Int32} (C0 : lw_At p s m meth c b 6 xs) {g : GG} {ad1 ad2 : Nat → Nat} (hK : KK g s) (hD1 : Dj ad1 122) (hD2 : Dj ad2 20) (hA1 : ∀ i, i < 122 → (fun q : Nat => s.heap.size ≤ q) (ad1 i)) (hA2 : ∀ i, i < 20 → (fun q : Nat => s.heap.size ≤ q) (ad2 i)) (hne : ∀ i j, i < 122 → j < 20 → ad1 i ≠ ad2 j) {H : Heap} {locs : List Loc} (hP1 : PW g ad1 122 (X0 g ad1) H) (hP2 : PW g ad2 20 (M0 g ad2) H) (hS : va_S (fun q : Nat => s.heap.size ≤ q) s.heap H locs) {ls : Array Slot} (hl : lv_has ls 4 [(0, .ref b), (1, .ref (ad1 0)), (2, .ref (ad2 0)), (3, .int 0)]) : W p l e room_1 s m #[Value.ref b] below meth c H locs 142 12631 (lw_Z below #[Value.ref b] s) (F0 m 1222 ls []) := by
  obtain ⟨hx, hb, hr, hml, hown, hts, hX, hbl, hlocks, hgv⟩ := id C0
  have hbA : ¬ (fun q : Nat => s.heap.size ≤ q) b := Nat.not_le.mpr hbl
  have E : Ev p s m #[Value.ref b] c cL_law "EbbWreckLaw" g := ⟨hx, hb, hown, fun w h => hts w (List.mem_filter.mp h).1, hK⟩
  have hQ1 : Hp g ad1 122 (X0 g ad1) (fun q : Nat => s.heap.size ≤ q) s.heap H locs := ⟨hP1, hS⟩
  refine lv_aload_n hx hb dL_law_1222 rfl (lv_at hl 1 rfl) ?_
  refine lv_aload_n hx hb dL_law_1223 rfl (lv_at hl 0 rfl) ?_
  refine lv_iload_n hx hb dL_law_1224 rfl (lv_at hl 3 rfl) ?_
  refine lv_iconst (v := 1) hx hb dL_law_1225 (by decide) ?_
  refine lv_iadd hx hb dL_law_1226 ?_
  refine sb_at (P := fun z => W _ _ _ _ _ _ _ _ _ _ _ _ _ _ _ (F0 _ _ _ (.int z :: _))) (show (0 : Int32) + 1 = 1 by decide) ?_
  refine va_sld hx hb hX hbl hbA hS (vp_in_lit 1 6 (by decide)) dL_law_1227 ?_
  refine lv_aload_n hx hb dL_law_1228 rfl (lv_at hl 0 rfl) ?_
  refine lv_iload_n hx hb dL_law_1229 rfl (lv_at hl 3 rfl) ?_
  refine lv_iconst (v := 2) hx hb dL_law_1230 (by decide) ?_
  refine lv_iadd hx hb dL_law_1231 ?_
  refine sb_at (P := fun z => W _ _ _ _ _ _ _ _ _ _ _ _ _ _ _ (F0 _ _ _ (.int z :: _))) (show (0 : Int32) + 2 = 2 by decide) ?_
  refine va_sld hx hb hX hbl hbA hS (vp_in_lit 2 6 (by decide)) dL_law_1232 ?_
  refine xcVi E (hs := ⟨hD1, hA1⟩) hQ1 hml hl.1 0 (fX11_drop l g ad1 hD1 (X0 g ad1) (fun i hi => rfl) (xs (1 : Int32).toNatClampNeg) (xs (2 : Int32).toNatClampNeg)) mX11_drop q1154 (by decide) rfl rfl rfl ⟨(Nat.le_of_ble_eq_true rfl), (Nat.le_of_ble_eq_true rfl)⟩ ⟨(Nat.le_of_ble_eq_true rfl), (Nat.le_of_ble_eq_true rfl)⟩ (Nat.le_of_ble_eq_true rfl) rfl dL_law_1233 (fun r1 S1 H locs hp1 hQ1 hk1 => ?_)
  have hS := hQ1.2
  have hQ2 : Hp g ad2 20 (M0 g ad2) (fun q : Nat => s.heap.size ≤ q) s.heap H locs := ⟨pw_kept hP2 hk1 hne, hQ1.2⟩
  refine lv_aload_n hx hb dL_law_1236 rfl (lv_at hl 2 rfl) ?_
  refine lv_aload_n hx hb dL_law_1237 rfl (lv_at hl 0 rfl) ?_
  refine lv_iload_n hx hb dL_law_1238 rfl (lv_at hl 3 rfl) ?_
  refine lv_iconst (v := 1) hx hb dL_law_1239 (by decide) ?_
  refine lv_iadd hx hb dL_law_1240 ?_
  refine sb_at (P := fun z => W _ _ _ _ _ _ _ _ _ _ _ _ _ _ _ (F0 _ _ _ (.int z :: _))) (show (0 : Int32) + 1 = 1 by decide) ?_
  refine va_sld hx hb hX hbl hbA hS (vp_in_lit 1 6 (by decide)) dL_law_1241 ?_
  refine lv_aload_n hx hb dL_law_1242 rfl (lv_at hl 0 rfl) ?_
  refine lv_iload_n hx hb dL_law_1243 rfl (lv_at hl 3 rfl) ?_
  refine lv_iconst (v := 2) hx hb dL_law_1244 (by decide) ?_
  refine lv_iadd hx hb dL_law_1245 ?_
  refine sb_at (P := fun z => W _ _ _ _ _ _ _ _ _ _ _ _ _ _ _ (F0 _ _ _ (.int z :: _))) (show (0 : Int32) + 2 = 2 by decide) ?_
  refine va_sld hx hb hX hbl hbA hS (vp_in_lit 2 6 (by decide)) dL_law_1246 ?_
  refine xcVi E (hs := ⟨hD2, hA2⟩) hQ2 hml hl.1 0 (fX12_drop l g ad2 hD2 (M0 g ad2) (fun i hi => rfl) (xs (1 : Int32).toNatClampNeg) (xs (2 : Int32).toNatClampNeg)) mX12_drop q1994 (by decide) rfl rfl rfl ⟨(Nat.le_of_ble_eq_true rfl), (Nat.le_of_ble_eq_true rfl)⟩ ⟨(Nat.le_of_ble_eq_true rfl), (Nat.le_of_ble_eq_true rfl)⟩ (Nat.le_of_ble_eq_true rfl) rfl dL_law_1247 (fun r2 S2 H locs hp2 hQ2 hk2 => ?_)
  have hS := hQ2.2
  refine lv_icmp_eq (tgt := 2159) hx hb dL_law_1250 (by decide) (fun _ => ?_) (fun h => absurd (Eq.trans hp1.2 (Eq.symm hp2)) h)
  exact law_tail C0 hS hl

set_option maxHeartbeats 4000000 in
set_option maxRecDepth 100000 in
theorem law_case_35 {p : Program} {l : Launch} {e : Env} {s : State} {m : MethodId} {below : List Frame} {meth : Method} {c : Code} {b : Nat} {xs : Nat → Int32} (C0 : lw_At p s m meth c b 6 xs) {g : GG} {ad1 ad2 : Nat → Nat} (hK : KK g s) (hD1 : Dj ad1 122) (hD2 : Dj ad2 20) (hA1 : ∀ i, i < 122 → (fun q : Nat => s.heap.size ≤ q) (ad1 i)) (hA2 : ∀ i, i < 20 → (fun q : Nat => s.heap.size ≤ q) (ad2 i)) (hne : ∀ i j, i < 122 → j < 20 → ad1 i ≠ ad2 j) {H : Heap} {locs : List Loc} (hP1 : PW g ad1 122 (X0 g ad1) H) (hP2 : PW g ad2 20 (M0 g ad2) H) (hS : va_S (fun q : Nat => s.heap.size ≤ q) s.heap H locs) {ls : Array Slot} (hl : lv_has ls 4 [(0, .ref b), (1, .ref (ad1 0)), (2, .ref (ad2 0)), (3, .int 0)]) : W p l e room_1 s m #[Value.ref b] below meth c H locs 142 12631 (lw_Z below #[Value.ref b] s) (F0 m 1255 ls []) := by
  obtain ⟨hx, hb, hr, hml, hown, hts, hX, hbl, hlocks, hgv⟩ := id C0
  have hbA : ¬ (fun q : Nat => s.heap.size ≤ q) b := Nat.not_le.mpr hbl
  have E : Ev p s m #[Value.ref b] c cL_law "EbbWreckLaw" g := ⟨hx, hb, hown, fun w h => hts w (List.mem_filter.mp h).1, hK⟩
  have hQ1 : Hp g ad1 122 (X0 g ad1) (fun q : Nat => s.heap.size ≤ q) s.heap H locs := ⟨hP1, hS⟩
  refine lv_aload_n hx hb dL_law_1255 rfl (lv_at hl 1 rfl) ?_
  refine lv_aload_n hx hb dL_law_1256 rfl (lv_at hl 0 rfl) ?_
  refine lv_iload_n hx hb dL_law_1257 rfl (lv_at hl 3 rfl) ?_
  refine lv_iconst (v := 1) hx hb dL_law_1258 (by decide) ?_
  refine lv_iadd hx hb dL_law_1259 ?_
  refine sb_at (P := fun z => W _ _ _ _ _ _ _ _ _ _ _ _ _ _ _ (F0 _ _ _ (.int z :: _))) (show (0 : Int32) + 1 = 1 by decide) ?_
  refine va_sld hx hb hX hbl hbA hS (vp_in_lit 1 6 (by decide)) dL_law_1260 ?_
  refine xcVi E (hs := ⟨hD1, hA1⟩) hQ1 hml hl.1 0 (fX11_drops l g ad1 hD1 (X0 g ad1) (fun i hi => rfl) (xs (1 : Int32).toNatClampNeg)) mX11_drops q1162 (by decide) rfl rfl rfl ⟨(Nat.le_of_ble_eq_true rfl), (Nat.le_of_ble_eq_true rfl)⟩ ⟨(Nat.le_of_ble_eq_true rfl), (Nat.le_of_ble_eq_true rfl)⟩ (Nat.le_of_ble_eq_true rfl) rfl dL_law_1261 (fun r1 S1 H locs hp1 hQ1 hk1 => ?_)
  have hS := hQ1.2
  have hQ2 : Hp g ad2 20 (M0 g ad2) (fun q : Nat => s.heap.size ≤ q) s.heap H locs := ⟨pw_kept hP2 hk1 hne, hQ1.2⟩
  refine lv_aload_n hx hb dL_law_1264 rfl (lv_at hl 2 rfl) ?_
  refine lv_aload_n hx hb dL_law_1265 rfl (lv_at hl 0 rfl) ?_
  refine lv_iload_n hx hb dL_law_1266 rfl (lv_at hl 3 rfl) ?_
  refine lv_iconst (v := 1) hx hb dL_law_1267 (by decide) ?_
  refine lv_iadd hx hb dL_law_1268 ?_
  refine sb_at (P := fun z => W _ _ _ _ _ _ _ _ _ _ _ _ _ _ _ (F0 _ _ _ (.int z :: _))) (show (0 : Int32) + 1 = 1 by decide) ?_
  refine va_sld hx hb hX hbl hbA hS (vp_in_lit 1 6 (by decide)) dL_law_1269 ?_
  refine xcVi E (hs := ⟨hD2, hA2⟩) hQ2 hml hl.1 0 (fX12_drops l g ad2 hD2 (M0 g ad2) (fun i hi => rfl) (xs (1 : Int32).toNatClampNeg)) mX12_drops q2003 (by decide) rfl rfl rfl ⟨(Nat.le_of_ble_eq_true rfl), (Nat.le_of_ble_eq_true rfl)⟩ ⟨(Nat.le_of_ble_eq_true rfl), (Nat.le_of_ble_eq_true rfl)⟩ (Nat.le_of_ble_eq_true rfl) rfl dL_law_1270 (fun r2 S2 H locs hp2 hQ2 hk2 => ?_)
  have hS := hQ2.2
  refine lv_icmp_eq (tgt := 2159) hx hb dL_law_1273 (by decide) (fun _ => ?_) (fun h => absurd (Eq.trans hp1.2 (Eq.symm hp2)) h)
  exact law_tail C0 hS hl

set_option maxHeartbeats 4000000 in
set_option maxRecDepth 100000 in
theorem law_case_36 {p : Program} {l : Launch} {e : Env} {s : State} {m : MethodId} {below : List Frame} {meth : Method} {c : Code} {b : Nat} {xs : Nat → Int32} (C0 : lw_At p s m meth c b 6 xs) {g : GG} {ad1 ad2 : Nat → Nat} (hK : KK g s) (hD1 : Dj ad1 122) (hD2 : Dj ad2 20) (hA1 : ∀ i, i < 122 → (fun q : Nat => s.heap.size ≤ q) (ad1 i)) (hA2 : ∀ i, i < 20 → (fun q : Nat => s.heap.size ≤ q) (ad2 i)) (hne : ∀ i j, i < 122 → j < 20 → ad1 i ≠ ad2 j) {H : Heap} {locs : List Loc} (hP1 : PW g ad1 122 (X0 g ad1) H) (hP2 : PW g ad2 20 (M0 g ad2) H) (hS : va_S (fun q : Nat => s.heap.size ≤ q) s.heap H locs) {ls : Array Slot} (hl : lv_has ls 4 [(0, .ref b), (1, .ref (ad1 0)), (2, .ref (ad2 0)), (3, .int 0)]) : W p l e room_1 s m #[Value.ref b] below meth c H locs 142 12631 (lw_Z below #[Value.ref b] s) (F0 m 1278 ls []) := by
  obtain ⟨hx, hb, hr, hml, hown, hts, hX, hbl, hlocks, hgv⟩ := id C0
  have hbA : ¬ (fun q : Nat => s.heap.size ≤ q) b := Nat.not_le.mpr hbl
  have E : Ev p s m #[Value.ref b] c cL_law "EbbWreckLaw" g := ⟨hx, hb, hown, fun w h => hts w (List.mem_filter.mp h).1, hK⟩
  have hQ1 : Hp g ad1 122 (X0 g ad1) (fun q : Nat => s.heap.size ≤ q) s.heap H locs := ⟨hP1, hS⟩
  refine lv_aload_n hx hb dL_law_1278 rfl (lv_at hl 1 rfl) ?_
  refine lv_aload_n hx hb dL_law_1279 rfl (lv_at hl 0 rfl) ?_
  refine lv_iload_n hx hb dL_law_1280 rfl (lv_at hl 3 rfl) ?_
  refine lv_iconst (v := 1) hx hb dL_law_1281 (by decide) ?_
  refine lv_iadd hx hb dL_law_1282 ?_
  refine sb_at (P := fun z => W _ _ _ _ _ _ _ _ _ _ _ _ _ _ _ (F0 _ _ _ (.int z :: _))) (show (0 : Int32) + 1 = 1 by decide) ?_
  refine va_sld hx hb hX hbl hbA hS (vp_in_lit 1 6 (by decide)) dL_law_1283 ?_
  refine xcVi E (hs := ⟨hD1, hA1⟩) hQ1 hml hl.1 0 (fX11_share l g ad1 hD1 (X0 g ad1) (fun i hi => rfl) (xs (1 : Int32).toNatClampNeg)) mX11_share q1272 (by decide) rfl rfl rfl ⟨(Nat.le_of_ble_eq_true rfl), (Nat.le_of_ble_eq_true rfl)⟩ ⟨(Nat.le_of_ble_eq_true rfl), (Nat.le_of_ble_eq_true rfl)⟩ (Nat.le_of_ble_eq_true rfl) rfl dL_law_1284 (fun r1 S1 H locs hp1 hQ1 hk1 => ?_)
  have hS := hQ1.2
  have hQ2 : Hp g ad2 20 (M0 g ad2) (fun q : Nat => s.heap.size ≤ q) s.heap H locs := ⟨pw_kept hP2 hk1 hne, hQ1.2⟩
  refine lv_aload_n hx hb dL_law_1287 rfl (lv_at hl 2 rfl) ?_
  refine lv_aload_n hx hb dL_law_1288 rfl (lv_at hl 0 rfl) ?_
  refine lv_iload_n hx hb dL_law_1289 rfl (lv_at hl 3 rfl) ?_
  refine lv_iconst (v := 1) hx hb dL_law_1290 (by decide) ?_
  refine lv_iadd hx hb dL_law_1291 ?_
  refine sb_at (P := fun z => W _ _ _ _ _ _ _ _ _ _ _ _ _ _ _ (F0 _ _ _ (.int z :: _))) (show (0 : Int32) + 1 = 1 by decide) ?_
  refine va_sld hx hb hX hbl hbA hS (vp_in_lit 1 6 (by decide)) dL_law_1292 ?_
  refine xcVi E (hs := ⟨hD2, hA2⟩) hQ2 hml hl.1 0 (fX12_share l g ad2 hD2 (M0 g ad2) (fun i hi => rfl) (xs (1 : Int32).toNatClampNeg)) mX12_share q2070 (by decide) rfl rfl rfl ⟨(Nat.le_of_ble_eq_true rfl), (Nat.le_of_ble_eq_true rfl)⟩ ⟨(Nat.le_of_ble_eq_true rfl), (Nat.le_of_ble_eq_true rfl)⟩ (Nat.le_of_ble_eq_true rfl) rfl dL_law_1293 (fun r2 S2 H locs hp2 hQ2 hk2 => ?_)
  have hS := hQ2.2
  refine lv_icmp_eq (tgt := 2159) hx hb dL_law_1296 (by decide) (fun _ => ?_) (fun h => absurd (Eq.trans hp1.2 (Eq.symm hp2)) h)
  exact law_tail C0 hS hl

set_option maxHeartbeats 4000000 in
set_option maxRecDepth 100000 in
theorem law_case_37 {p : Program} {l : Launch} {e : Env} {s : State} {m : MethodId} {below : List Frame} {meth : Method} {c : Code} {b : Nat} {xs : Nat → Int32} (C0 : lw_At p s m meth c b 6 xs) {g : GG} {ad1 ad2 : Nat → Nat} (hK : KK g s) (hD1 : Dj ad1 122) (hD2 : Dj ad2 20) (hA1 : ∀ i, i < 122 → (fun q : Nat => s.heap.size ≤ q) (ad1 i)) (hA2 : ∀ i, i < 20 → (fun q : Nat => s.heap.size ≤ q) (ad2 i)) (hne : ∀ i j, i < 122 → j < 20 → ad1 i ≠ ad2 j) {H : Heap} {locs : List Loc} (hP1 : PW g ad1 122 (X0 g ad1) H) (hP2 : PW g ad2 20 (M0 g ad2) H) (hS : va_S (fun q : Nat => s.heap.size ≤ q) s.heap H locs) {ls : Array Slot} (hl : lv_has ls 4 [(0, .ref b), (1, .ref (ad1 0)), (2, .ref (ad2 0)), (3, .int 0)]) : W p l e room_1 s m #[Value.ref b] below meth c H locs 142 12631 (lw_Z below #[Value.ref b] s) (F0 m 1301 ls []) := by
  obtain ⟨hx, hb, hr, hml, hown, hts, hX, hbl, hlocks, hgv⟩ := id C0
  have hbA : ¬ (fun q : Nat => s.heap.size ≤ q) b := Nat.not_le.mpr hbl
  have E : Ev p s m #[Value.ref b] c cL_law "EbbWreckLaw" g := ⟨hx, hb, hown, fun w h => hts w (List.mem_filter.mp h).1, hK⟩
  have hQ1 : Hp g ad1 122 (X0 g ad1) (fun q : Nat => s.heap.size ≤ q) s.heap H locs := ⟨hP1, hS⟩
  refine lv_aload_n hx hb dL_law_1301 rfl (lv_at hl 1 rfl) ?_
  refine lv_aload_n hx hb dL_law_1302 rfl (lv_at hl 0 rfl) ?_
  refine lv_iload_n hx hb dL_law_1303 rfl (lv_at hl 3 rfl) ?_
  refine lv_iconst (v := 1) hx hb dL_law_1304 (by decide) ?_
  refine lv_iadd hx hb dL_law_1305 ?_
  refine sb_at (P := fun z => W _ _ _ _ _ _ _ _ _ _ _ _ _ _ _ (F0 _ _ _ (.int z :: _))) (show (0 : Int32) + 1 = 1 by decide) ?_
  refine va_sld hx hb hX hbl hbA hS (vp_in_lit 1 6 (by decide)) dL_law_1306 ?_
  refine lv_aload_n hx hb dL_law_1307 rfl (lv_at hl 0 rfl) ?_
  refine lv_iload_n hx hb dL_law_1308 rfl (lv_at hl 3 rfl) ?_
  refine lv_iconst (v := 2) hx hb dL_law_1309 (by decide) ?_
  refine lv_iadd hx hb dL_law_1310 ?_
  refine sb_at (P := fun z => W _ _ _ _ _ _ _ _ _ _ _ _ _ _ _ (F0 _ _ _ (.int z :: _))) (show (0 : Int32) + 2 = 2 by decide) ?_
  refine va_sld hx hb hX hbl hbA hS (vp_in_lit 2 6 (by decide)) dL_law_1311 ?_
  refine lv_aload_n hx hb dL_law_1312 rfl (lv_at hl 0 rfl) ?_
  refine lv_iload_n hx hb dL_law_1313 rfl (lv_at hl 3 rfl) ?_
  refine lv_iconst (v := 3) hx hb dL_law_1314 (by decide) ?_
  refine lv_iadd hx hb dL_law_1315 ?_
  refine sb_at (P := fun z => W _ _ _ _ _ _ _ _ _ _ _ _ _ _ _ (F0 _ _ _ (.int z :: _))) (show (0 : Int32) + 3 = 3 by decide) ?_
  refine va_sld hx hb hX hbl hbA hS (vp_in_lit 3 6 (by decide)) dL_law_1316 ?_
  refine xcVi E (hs := ⟨hD1, hA1⟩) hQ1 hml hl.1 0 (fX11_origins l g ad1 hD1 (X0 g ad1) (fun i hi => rfl) (xs (1 : Int32).toNatClampNeg) (xs (2 : Int32).toNatClampNeg) (xs (3 : Int32).toNatClampNeg)) mX11_origins q1171 (by decide) rfl rfl rfl ⟨(Nat.le_of_ble_eq_true rfl), (Nat.le_of_ble_eq_true rfl)⟩ ⟨(Nat.le_of_ble_eq_true rfl), (Nat.le_of_ble_eq_true rfl)⟩ (Nat.le_of_ble_eq_true rfl) rfl dL_law_1317 (fun r1 S1 H locs hp1 hQ1 hk1 => ?_)
  have hS := hQ1.2
  have hQ2 : Hp g ad2 20 (M0 g ad2) (fun q : Nat => s.heap.size ≤ q) s.heap H locs := ⟨pw_kept hP2 hk1 hne, hQ1.2⟩
  refine lv_aload_n hx hb dL_law_1320 rfl (lv_at hl 2 rfl) ?_
  refine lv_aload_n hx hb dL_law_1321 rfl (lv_at hl 0 rfl) ?_
  refine lv_iload_n hx hb dL_law_1322 rfl (lv_at hl 3 rfl) ?_
  refine lv_iconst (v := 1) hx hb dL_law_1323 (by decide) ?_
  refine lv_iadd hx hb dL_law_1324 ?_
  refine sb_at (P := fun z => W _ _ _ _ _ _ _ _ _ _ _ _ _ _ _ (F0 _ _ _ (.int z :: _))) (show (0 : Int32) + 1 = 1 by decide) ?_
  refine va_sld hx hb hX hbl hbA hS (vp_in_lit 1 6 (by decide)) dL_law_1325 ?_
  refine lv_aload_n hx hb dL_law_1326 rfl (lv_at hl 0 rfl) ?_
  refine lv_iload_n hx hb dL_law_1327 rfl (lv_at hl 3 rfl) ?_
  refine lv_iconst (v := 2) hx hb dL_law_1328 (by decide) ?_
  refine lv_iadd hx hb dL_law_1329 ?_
  refine sb_at (P := fun z => W _ _ _ _ _ _ _ _ _ _ _ _ _ _ _ (F0 _ _ _ (.int z :: _))) (show (0 : Int32) + 2 = 2 by decide) ?_
  refine va_sld hx hb hX hbl hbA hS (vp_in_lit 2 6 (by decide)) dL_law_1330 ?_
  refine lv_aload_n hx hb dL_law_1331 rfl (lv_at hl 0 rfl) ?_
  refine lv_iload_n hx hb dL_law_1332 rfl (lv_at hl 3 rfl) ?_
  refine lv_iconst (v := 3) hx hb dL_law_1333 (by decide) ?_
  refine lv_iadd hx hb dL_law_1334 ?_
  refine sb_at (P := fun z => W _ _ _ _ _ _ _ _ _ _ _ _ _ _ _ (F0 _ _ _ (.int z :: _))) (show (0 : Int32) + 3 = 3 by decide) ?_
  refine va_sld hx hb hX hbl hbA hS (vp_in_lit 3 6 (by decide)) dL_law_1335 ?_
  refine xcVi E (hs := ⟨hD2, hA2⟩) hQ2 hml hl.1 0 (fX12_origins l g ad2 hD2 (M0 g ad2) (fun i hi => rfl) (xs (1 : Int32).toNatClampNeg) (xs (2 : Int32).toNatClampNeg) (xs (3 : Int32).toNatClampNeg)) mX12_origins q2007 (by decide) rfl rfl rfl ⟨(Nat.le_of_ble_eq_true rfl), (Nat.le_of_ble_eq_true rfl)⟩ ⟨(Nat.le_of_ble_eq_true rfl), (Nat.le_of_ble_eq_true rfl)⟩ (Nat.le_of_ble_eq_true rfl) rfl dL_law_1336 (fun r2 S2 H locs hp2 hQ2 hk2 => ?_)
  have hS := hQ2.2
  refine lv_icmp_eq (tgt := 2159) hx hb dL_law_1339 (by decide) (fun _ => ?_) (fun h => absurd (Eq.trans hp1.2 (Eq.symm hp2)) h)
  exact law_tail C0 hS hl

set_option maxHeartbeats 4000000 in
set_option maxRecDepth 100000 in
theorem law_case_38 {p : Program} {l : Launch} {e : Env} {s : State} {m : MethodId} {below : List Frame} {meth : Method} {c : Code} {b : Nat} {xs : Nat → Int32} (C0 : lw_At p s m meth c b 6 xs) {g : GG} {ad1 ad2 : Nat → Nat} (hK : KK g s) (hD1 : Dj ad1 122) (hD2 : Dj ad2 20) (hA1 : ∀ i, i < 122 → (fun q : Nat => s.heap.size ≤ q) (ad1 i)) (hA2 : ∀ i, i < 20 → (fun q : Nat => s.heap.size ≤ q) (ad2 i)) (hne : ∀ i j, i < 122 → j < 20 → ad1 i ≠ ad2 j) {H : Heap} {locs : List Loc} (hP1 : PW g ad1 122 (X0 g ad1) H) (hP2 : PW g ad2 20 (M0 g ad2) H) (hS : va_S (fun q : Nat => s.heap.size ≤ q) s.heap H locs) {ls : Array Slot} (hl : lv_has ls 4 [(0, .ref b), (1, .ref (ad1 0)), (2, .ref (ad2 0)), (3, .int 0)]) : W p l e room_1 s m #[Value.ref b] below meth c H locs 142 12631 (lw_Z below #[Value.ref b] s) (F0 m 1344 ls []) := by
  obtain ⟨hx, hb, hr, hml, hown, hts, hX, hbl, hlocks, hgv⟩ := id C0
  have hbA : ¬ (fun q : Nat => s.heap.size ≤ q) b := Nat.not_le.mpr hbl
  have E : Ev p s m #[Value.ref b] c cL_law "EbbWreckLaw" g := ⟨hx, hb, hown, fun w h => hts w (List.mem_filter.mp h).1, hK⟩
  have hQ1 : Hp g ad1 122 (X0 g ad1) (fun q : Nat => s.heap.size ≤ q) s.heap H locs := ⟨hP1, hS⟩
  refine lv_aload_n hx hb dL_law_1344 rfl (lv_at hl 1 rfl) ?_
  refine lv_aload_n hx hb dL_law_1345 rfl (lv_at hl 0 rfl) ?_
  refine lv_iload_n hx hb dL_law_1346 rfl (lv_at hl 3 rfl) ?_
  refine lv_iconst (v := 1) hx hb dL_law_1347 (by decide) ?_
  refine lv_iadd hx hb dL_law_1348 ?_
  refine sb_at (P := fun z => W _ _ _ _ _ _ _ _ _ _ _ _ _ _ _ (F0 _ _ _ (.int z :: _))) (show (0 : Int32) + 1 = 1 by decide) ?_
  refine va_sld hx hb hX hbl hbA hS (vp_in_lit 1 6 (by decide)) dL_law_1349 ?_
  refine lv_aload_n hx hb dL_law_1350 rfl (lv_at hl 0 rfl) ?_
  refine lv_iload_n hx hb dL_law_1351 rfl (lv_at hl 3 rfl) ?_
  refine lv_iconst (v := 2) hx hb dL_law_1352 (by decide) ?_
  refine lv_iadd hx hb dL_law_1353 ?_
  refine sb_at (P := fun z => W _ _ _ _ _ _ _ _ _ _ _ _ _ _ _ (F0 _ _ _ (.int z :: _))) (show (0 : Int32) + 2 = 2 by decide) ?_
  refine va_sld hx hb hX hbl hbA hS (vp_in_lit 2 6 (by decide)) dL_law_1354 ?_
  refine lv_aload_n hx hb dL_law_1355 rfl (lv_at hl 0 rfl) ?_
  refine lv_iload_n hx hb dL_law_1356 rfl (lv_at hl 3 rfl) ?_
  refine lv_iconst (v := 3) hx hb dL_law_1357 (by decide) ?_
  refine lv_iadd hx hb dL_law_1358 ?_
  refine sb_at (P := fun z => W _ _ _ _ _ _ _ _ _ _ _ _ _ _ _ (F0 _ _ _ (.int z :: _))) (show (0 : Int32) + 3 = 3 by decide) ?_
  refine va_sld hx hb hX hbl hbA hS (vp_in_lit 3 6 (by decide)) dL_law_1359 ?_
  refine xcVi E (hs := ⟨hD1, hA1⟩) hQ1 hml hl.1 0 (fX11_when l g ad1 hD1 (X0 g ad1) (fun i hi => rfl) (xs (1 : Int32).toNatClampNeg) (xs (2 : Int32).toNatClampNeg) (xs (3 : Int32).toNatClampNeg)) mX11_when q1183 (by decide) rfl rfl rfl ⟨(Nat.le_of_ble_eq_true rfl), (Nat.le_of_ble_eq_true rfl)⟩ ⟨(Nat.le_of_ble_eq_true rfl), (Nat.le_of_ble_eq_true rfl)⟩ (Nat.le_of_ble_eq_true rfl) rfl dL_law_1360 (fun r1 S1 H locs hp1 hQ1 hk1 => ?_)
  have hS := hQ1.2
  have hQ2 : Hp g ad2 20 (M0 g ad2) (fun q : Nat => s.heap.size ≤ q) s.heap H locs := ⟨pw_kept hP2 hk1 hne, hQ1.2⟩
  refine lv_aload_n hx hb dL_law_1363 rfl (lv_at hl 2 rfl) ?_
  refine lv_aload_n hx hb dL_law_1364 rfl (lv_at hl 0 rfl) ?_
  refine lv_iload_n hx hb dL_law_1365 rfl (lv_at hl 3 rfl) ?_
  refine lv_iconst (v := 1) hx hb dL_law_1366 (by decide) ?_
  refine lv_iadd hx hb dL_law_1367 ?_
  refine sb_at (P := fun z => W _ _ _ _ _ _ _ _ _ _ _ _ _ _ _ (F0 _ _ _ (.int z :: _))) (show (0 : Int32) + 1 = 1 by decide) ?_
  refine va_sld hx hb hX hbl hbA hS (vp_in_lit 1 6 (by decide)) dL_law_1368 ?_
  refine lv_aload_n hx hb dL_law_1369 rfl (lv_at hl 0 rfl) ?_
  refine lv_iload_n hx hb dL_law_1370 rfl (lv_at hl 3 rfl) ?_
  refine lv_iconst (v := 2) hx hb dL_law_1371 (by decide) ?_
  refine lv_iadd hx hb dL_law_1372 ?_
  refine sb_at (P := fun z => W _ _ _ _ _ _ _ _ _ _ _ _ _ _ _ (F0 _ _ _ (.int z :: _))) (show (0 : Int32) + 2 = 2 by decide) ?_
  refine va_sld hx hb hX hbl hbA hS (vp_in_lit 2 6 (by decide)) dL_law_1373 ?_
  refine lv_aload_n hx hb dL_law_1374 rfl (lv_at hl 0 rfl) ?_
  refine lv_iload_n hx hb dL_law_1375 rfl (lv_at hl 3 rfl) ?_
  refine lv_iconst (v := 3) hx hb dL_law_1376 (by decide) ?_
  refine lv_iadd hx hb dL_law_1377 ?_
  refine sb_at (P := fun z => W _ _ _ _ _ _ _ _ _ _ _ _ _ _ _ (F0 _ _ _ (.int z :: _))) (show (0 : Int32) + 3 = 3 by decide) ?_
  refine va_sld hx hb hX hbl hbA hS (vp_in_lit 3 6 (by decide)) dL_law_1378 ?_
  refine xcVi E (hs := ⟨hD2, hA2⟩) hQ2 hml hl.1 0 (fX12_when l g ad2 hD2 (M0 g ad2) (fun i hi => rfl) (xs (1 : Int32).toNatClampNeg) (xs (2 : Int32).toNatClampNeg) (xs (3 : Int32).toNatClampNeg)) mX12_when q2011 (by decide) rfl rfl rfl ⟨(Nat.le_of_ble_eq_true rfl), (Nat.le_of_ble_eq_true rfl)⟩ ⟨(Nat.le_of_ble_eq_true rfl), (Nat.le_of_ble_eq_true rfl)⟩ (Nat.le_of_ble_eq_true rfl) rfl dL_law_1379 (fun r2 S2 H locs hp2 hQ2 hk2 => ?_)
  have hS := hQ2.2
  refine lv_icmp_eq (tgt := 2159) hx hb dL_law_1382 (by decide) (fun _ => ?_) (fun h => absurd (Eq.trans hp1.2 (Eq.symm hp2)) h)
  exact law_tail C0 hS hl

set_option maxHeartbeats 4000000 in
set_option maxRecDepth 100000 in
theorem law_case_39 {p : Program} {l : Launch} {e : Env} {s : State} {m : MethodId} {below : List Frame} {meth : Method} {c : Code} {b : Nat} {xs : Nat → Int32} (C0 : lw_At p s m meth c b 6 xs) {g : GG} {ad1 ad2 : Nat → Nat} (hK : KK g s) (hD1 : Dj ad1 122) (hD2 : Dj ad2 20) (hA1 : ∀ i, i < 122 → (fun q : Nat => s.heap.size ≤ q) (ad1 i)) (hA2 : ∀ i, i < 20 → (fun q : Nat => s.heap.size ≤ q) (ad2 i)) (hne : ∀ i j, i < 122 → j < 20 → ad1 i ≠ ad2 j) {H : Heap} {locs : List Loc} (hP1 : PW g ad1 122 (X0 g ad1) H) (hP2 : PW g ad2 20 (M0 g ad2) H) (hS : va_S (fun q : Nat => s.heap.size ≤ q) s.heap H locs) {ls : Array Slot} (hl : lv_has ls 4 [(0, .ref b), (1, .ref (ad1 0)), (2, .ref (ad2 0)), (3, .int 0)]) : W p l e room_1 s m #[Value.ref b] below meth c H locs 142 12631 (lw_Z below #[Value.ref b] s) (F0 m 1387 ls []) := by
  obtain ⟨hx, hb, hr, hml, hown, hts, hX, hbl, hlocks, hgv⟩ := id C0
  have hbA : ¬ (fun q : Nat => s.heap.size ≤ q) b := Nat.not_le.mpr hbl
  have E : Ev p s m #[Value.ref b] c cL_law "EbbWreckLaw" g := ⟨hx, hb, hown, fun w h => hts w (List.mem_filter.mp h).1, hK⟩
  have hQ1 : Hp g ad1 122 (X0 g ad1) (fun q : Nat => s.heap.size ≤ q) s.heap H locs := ⟨hP1, hS⟩
  refine lv_aload_n hx hb dL_law_1387 rfl (lv_at hl 1 rfl) ?_
  refine lv_aload_n hx hb dL_law_1388 rfl (lv_at hl 0 rfl) ?_
  refine lv_iload_n hx hb dL_law_1389 rfl (lv_at hl 3 rfl) ?_
  refine lv_iconst (v := 1) hx hb dL_law_1390 (by decide) ?_
  refine lv_iadd hx hb dL_law_1391 ?_
  refine sb_at (P := fun z => W _ _ _ _ _ _ _ _ _ _ _ _ _ _ _ (F0 _ _ _ (.int z :: _))) (show (0 : Int32) + 1 = 1 by decide) ?_
  refine va_sld hx hb hX hbl hbA hS (vp_in_lit 1 6 (by decide)) dL_law_1392 ?_
  refine xcVi E (hs := ⟨hD1, hA1⟩) hQ1 hml hl.1 0 (fX11_fits l g ad1 hD1 (X0 g ad1) (fun i hi => rfl) (xs (1 : Int32).toNatClampNeg)) mX11_fits q1191 (by decide) rfl rfl rfl ⟨(Nat.le_of_ble_eq_true rfl), (Nat.le_of_ble_eq_true rfl)⟩ ⟨(Nat.le_of_ble_eq_true rfl), (Nat.le_of_ble_eq_true rfl)⟩ (Nat.le_of_ble_eq_true rfl) rfl dL_law_1393 (fun r1 S1 H locs hp1 hQ1 hk1 => ?_)
  have hS := hQ1.2
  have hQ2 : Hp g ad2 20 (M0 g ad2) (fun q : Nat => s.heap.size ≤ q) s.heap H locs := ⟨pw_kept hP2 hk1 hne, hQ1.2⟩
  refine lv_aload_n hx hb dL_law_1396 rfl (lv_at hl 2 rfl) ?_
  refine lv_aload_n hx hb dL_law_1397 rfl (lv_at hl 0 rfl) ?_
  refine lv_iload_n hx hb dL_law_1398 rfl (lv_at hl 3 rfl) ?_
  refine lv_iconst (v := 1) hx hb dL_law_1399 (by decide) ?_
  refine lv_iadd hx hb dL_law_1400 ?_
  refine sb_at (P := fun z => W _ _ _ _ _ _ _ _ _ _ _ _ _ _ _ (F0 _ _ _ (.int z :: _))) (show (0 : Int32) + 1 = 1 by decide) ?_
  refine va_sld hx hb hX hbl hbA hS (vp_in_lit 1 6 (by decide)) dL_law_1401 ?_
  refine xcVi E (hs := ⟨hD2, hA2⟩) hQ2 hml hl.1 0 (fX12_fits l g ad2 hD2 (M0 g ad2) (fun i hi => rfl) (xs (1 : Int32).toNatClampNeg)) mX12_fits q2015 (by decide) rfl rfl rfl ⟨(Nat.le_of_ble_eq_true rfl), (Nat.le_of_ble_eq_true rfl)⟩ ⟨(Nat.le_of_ble_eq_true rfl), (Nat.le_of_ble_eq_true rfl)⟩ (Nat.le_of_ble_eq_true rfl) rfl dL_law_1402 (fun r2 S2 H locs hp2 hQ2 hk2 => ?_)
  have hS := hQ2.2
  refine lv_icmp_eq (tgt := 2159) hx hb dL_law_1405 (by decide) (fun _ => ?_) (fun h => absurd (Eq.trans hp1 (Eq.symm hp2)) h)
  exact law_tail C0 hS hl

set_option maxHeartbeats 4000000 in
set_option maxRecDepth 100000 in
theorem law_case_40 {p : Program} {l : Launch} {e : Env} {s : State} {m : MethodId} {below : List Frame} {meth : Method} {c : Code} {b : Nat} {xs : Nat → Int32} (C0 : lw_At p s m meth c b 6 xs) {g : GG} {ad1 ad2 : Nat → Nat} (hK : KK g s) (hD1 : Dj ad1 122) (hD2 : Dj ad2 20) (hA1 : ∀ i, i < 122 → (fun q : Nat => s.heap.size ≤ q) (ad1 i)) (hA2 : ∀ i, i < 20 → (fun q : Nat => s.heap.size ≤ q) (ad2 i)) (hne : ∀ i j, i < 122 → j < 20 → ad1 i ≠ ad2 j) {H : Heap} {locs : List Loc} (hP1 : PW g ad1 122 (X0 g ad1) H) (hP2 : PW g ad2 20 (M0 g ad2) H) (hS : va_S (fun q : Nat => s.heap.size ≤ q) s.heap H locs) {ls : Array Slot} (hl : lv_has ls 4 [(0, .ref b), (1, .ref (ad1 0)), (2, .ref (ad2 0)), (3, .int 0)]) : W p l e room_1 s m #[Value.ref b] below meth c H locs 142 12631 (lw_Z below #[Value.ref b] s) (F0 m 1410 ls []) := by
  obtain ⟨hx, hb, hr, hml, hown, hts, hX, hbl, hlocks, hgv⟩ := id C0
  have hbA : ¬ (fun q : Nat => s.heap.size ≤ q) b := Nat.not_le.mpr hbl
  have E : Ev p s m #[Value.ref b] c cL_law "EbbWreckLaw" g := ⟨hx, hb, hown, fun w h => hts w (List.mem_filter.mp h).1, hK⟩
  have hQ1 : Hp g ad1 122 (X0 g ad1) (fun q : Nat => s.heap.size ≤ q) s.heap H locs := ⟨hP1, hS⟩
  refine lv_aload_n hx hb dL_law_1410 rfl (lv_at hl 1 rfl) ?_
  refine lv_aload_n hx hb dL_law_1411 rfl (lv_at hl 0 rfl) ?_
  refine lv_iload_n hx hb dL_law_1412 rfl (lv_at hl 3 rfl) ?_
  refine lv_iconst (v := 1) hx hb dL_law_1413 (by decide) ?_
  refine lv_iadd hx hb dL_law_1414 ?_
  refine sb_at (P := fun z => W _ _ _ _ _ _ _ _ _ _ _ _ _ _ _ (F0 _ _ _ (.int z :: _))) (show (0 : Int32) + 1 = 1 by decide) ?_
  refine va_sld hx hb hX hbl hbA hS (vp_in_lit 1 6 (by decide)) dL_law_1415 ?_
  refine lv_aload_n hx hb dL_law_1416 rfl (lv_at hl 0 rfl) ?_
  refine lv_iload_n hx hb dL_law_1417 rfl (lv_at hl 3 rfl) ?_
  refine lv_iconst (v := 2) hx hb dL_law_1418 (by decide) ?_
  refine lv_iadd hx hb dL_law_1419 ?_
  refine sb_at (P := fun z => W _ _ _ _ _ _ _ _ _ _ _ _ _ _ _ (F0 _ _ _ (.int z :: _))) (show (0 : Int32) + 2 = 2 by decide) ?_
  refine va_sld hx hb hX hbl hbA hS (vp_in_lit 2 6 (by decide)) dL_law_1420 ?_
  refine xcVi E (hs := ⟨hD1, hA1⟩) hQ1 hml hl.1 0 (fX11_fit l g ad1 hD1 (X0 g ad1) (fun i hi => rfl) (xs (1 : Int32).toNatClampNeg) (xs (2 : Int32).toNatClampNeg)) mX11_fit q1237 (by decide) rfl rfl rfl ⟨(Nat.le_of_ble_eq_true rfl), (Nat.le_of_ble_eq_true rfl)⟩ ⟨(Nat.le_of_ble_eq_true rfl), (Nat.le_of_ble_eq_true rfl)⟩ (Nat.le_of_ble_eq_true rfl) rfl dL_law_1421 (fun r1 S1 H locs hp1 hQ1 hk1 => ?_)
  have hS := hQ1.2
  have hQ2 : Hp g ad2 20 (M0 g ad2) (fun q : Nat => s.heap.size ≤ q) s.heap H locs := ⟨pw_kept hP2 hk1 hne, hQ1.2⟩
  refine lv_aload_n hx hb dL_law_1424 rfl (lv_at hl 2 rfl) ?_
  refine lv_aload_n hx hb dL_law_1425 rfl (lv_at hl 0 rfl) ?_
  refine lv_iload_n hx hb dL_law_1426 rfl (lv_at hl 3 rfl) ?_
  refine lv_iconst (v := 1) hx hb dL_law_1427 (by decide) ?_
  refine lv_iadd hx hb dL_law_1428 ?_
  refine sb_at (P := fun z => W _ _ _ _ _ _ _ _ _ _ _ _ _ _ _ (F0 _ _ _ (.int z :: _))) (show (0 : Int32) + 1 = 1 by decide) ?_
  refine va_sld hx hb hX hbl hbA hS (vp_in_lit 1 6 (by decide)) dL_law_1429 ?_
  refine lv_aload_n hx hb dL_law_1430 rfl (lv_at hl 0 rfl) ?_
  refine lv_iload_n hx hb dL_law_1431 rfl (lv_at hl 3 rfl) ?_
  refine lv_iconst (v := 2) hx hb dL_law_1432 (by decide) ?_
  refine lv_iadd hx hb dL_law_1433 ?_
  refine sb_at (P := fun z => W _ _ _ _ _ _ _ _ _ _ _ _ _ _ _ (F0 _ _ _ (.int z :: _))) (show (0 : Int32) + 2 = 2 by decide) ?_
  refine va_sld hx hb hX hbl hbA hS (vp_in_lit 2 6 (by decide)) dL_law_1434 ?_
  refine xcVi E (hs := ⟨hD2, hA2⟩) hQ2 hml hl.1 0 (fX12_fit l g ad2 hD2 (M0 g ad2) (fun i hi => rfl) (xs (1 : Int32).toNatClampNeg) (xs (2 : Int32).toNatClampNeg)) mX12_fit q2035 (by decide) rfl rfl rfl ⟨(Nat.le_of_ble_eq_true rfl), (Nat.le_of_ble_eq_true rfl)⟩ ⟨(Nat.le_of_ble_eq_true rfl), (Nat.le_of_ble_eq_true rfl)⟩ (Nat.le_of_ble_eq_true rfl) rfl dL_law_1435 (fun r2 S2 H locs hp2 hQ2 hk2 => ?_)
  have hS := hQ2.2
  refine lv_icmp_eq (tgt := 2159) hx hb dL_law_1438 (by decide) (fun _ => ?_) (fun h => absurd (Eq.trans hp1 (Eq.symm hp2)) h)
  exact law_tail C0 hS hl

set_option maxHeartbeats 4000000 in
set_option maxRecDepth 100000 in
theorem law_case_41 {p : Program} {l : Launch} {e : Env} {s : State} {m : MethodId} {below : List Frame} {meth : Method} {c : Code} {b : Nat} {xs : Nat → Int32} (C0 : lw_At p s m meth c b 6 xs) {g : GG} {ad1 ad2 : Nat → Nat} (hK : KK g s) (hD1 : Dj ad1 122) (hD2 : Dj ad2 20) (hA1 : ∀ i, i < 122 → (fun q : Nat => s.heap.size ≤ q) (ad1 i)) (hA2 : ∀ i, i < 20 → (fun q : Nat => s.heap.size ≤ q) (ad2 i)) (hne : ∀ i j, i < 122 → j < 20 → ad1 i ≠ ad2 j) {H : Heap} {locs : List Loc} (hP1 : PW g ad1 122 (X0 g ad1) H) (hP2 : PW g ad2 20 (M0 g ad2) H) (hS : va_S (fun q : Nat => s.heap.size ≤ q) s.heap H locs) {ls : Array Slot} (hl : lv_has ls 4 [(0, .ref b), (1, .ref (ad1 0)), (2, .ref (ad2 0)), (3, .int 0)]) : W p l e room_1 s m #[Value.ref b] below meth c H locs 142 12631 (lw_Z below #[Value.ref b] s) (F0 m 1443 ls []) := by
  obtain ⟨hx, hb, hr, hml, hown, hts, hX, hbl, hlocks, hgv⟩ := id C0
  have hbA : ¬ (fun q : Nat => s.heap.size ≤ q) b := Nat.not_le.mpr hbl
  have E : Ev p s m #[Value.ref b] c cL_law "EbbWreckLaw" g := ⟨hx, hb, hown, fun w h => hts w (List.mem_filter.mp h).1, hK⟩
  have hQ1 : Hp g ad1 122 (X0 g ad1) (fun q : Nat => s.heap.size ≤ q) s.heap H locs := ⟨hP1, hS⟩
  refine lv_aload_n hx hb dL_law_1443 rfl (lv_at hl 1 rfl) ?_
  refine lv_aload_n hx hb dL_law_1444 rfl (lv_at hl 0 rfl) ?_
  refine lv_iload_n hx hb dL_law_1445 rfl (lv_at hl 3 rfl) ?_
  refine lv_iconst (v := 1) hx hb dL_law_1446 (by decide) ?_
  refine lv_iadd hx hb dL_law_1447 ?_
  refine sb_at (P := fun z => W _ _ _ _ _ _ _ _ _ _ _ _ _ _ _ (F0 _ _ _ (.int z :: _))) (show (0 : Int32) + 1 = 1 by decide) ?_
  refine va_sld hx hb hX hbl hbA hS (vp_in_lit 1 6 (by decide)) dL_law_1448 ?_
  refine xcVi E (hs := ⟨hD1, hA1⟩) hQ1 hml hl.1 0 (fX11_ask l g ad1 hD1 (X0 g ad1) (fun i hi => rfl) (xs (1 : Int32).toNatClampNeg)) mX11_ask q1253 (by decide) rfl rfl rfl ⟨(Nat.le_of_ble_eq_true rfl), (Nat.le_of_ble_eq_true rfl)⟩ ⟨(Nat.le_of_ble_eq_true rfl), (Nat.le_of_ble_eq_true rfl)⟩ (Nat.le_of_ble_eq_true rfl) rfl dL_law_1449 (fun r1 S1 H locs hp1 hQ1 hk1 => ?_)
  have hS := hQ1.2
  have hQ2 : Hp g ad2 20 (M0 g ad2) (fun q : Nat => s.heap.size ≤ q) s.heap H locs := ⟨pw_kept hP2 hk1 hne, hQ1.2⟩
  refine lv_aload_n hx hb dL_law_1452 rfl (lv_at hl 2 rfl) ?_
  refine lv_aload_n hx hb dL_law_1453 rfl (lv_at hl 0 rfl) ?_
  refine lv_iload_n hx hb dL_law_1454 rfl (lv_at hl 3 rfl) ?_
  refine lv_iconst (v := 1) hx hb dL_law_1455 (by decide) ?_
  refine lv_iadd hx hb dL_law_1456 ?_
  refine sb_at (P := fun z => W _ _ _ _ _ _ _ _ _ _ _ _ _ _ _ (F0 _ _ _ (.int z :: _))) (show (0 : Int32) + 1 = 1 by decide) ?_
  refine va_sld hx hb hX hbl hbA hS (vp_in_lit 1 6 (by decide)) dL_law_1457 ?_
  refine xcVi E (hs := ⟨hD2, hA2⟩) hQ2 hml hl.1 0 (fX12_ask l g ad2 hD2 (M0 g ad2) (fun i hi => rfl) (xs (1 : Int32).toNatClampNeg)) mX12_ask q2042 (by decide) rfl rfl rfl ⟨(Nat.le_of_ble_eq_true rfl), (Nat.le_of_ble_eq_true rfl)⟩ ⟨(Nat.le_of_ble_eq_true rfl), (Nat.le_of_ble_eq_true rfl)⟩ (Nat.le_of_ble_eq_true rfl) rfl dL_law_1458 (fun r2 S2 H locs hp2 hQ2 hk2 => ?_)
  have hS := hQ2.2
  refine lv_icmp_eq (tgt := 2159) hx hb dL_law_1461 (by decide) (fun _ => ?_) (fun h => absurd (Eq.trans hp1 (Eq.symm hp2)) h)
  exact law_tail C0 hS hl

set_option maxHeartbeats 4000000 in
set_option maxRecDepth 100000 in
theorem law_case_42 {p : Program} {l : Launch} {e : Env} {s : State} {m : MethodId} {below : List Frame} {meth : Method} {c : Code} {b : Nat} {xs : Nat → Int32} (C0 : lw_At p s m meth c b 6 xs) {g : GG} {ad1 ad2 : Nat → Nat} (hK : KK g s) (hD1 : Dj ad1 122) (hD2 : Dj ad2 20) (hA1 : ∀ i, i < 122 → (fun q : Nat => s.heap.size ≤ q) (ad1 i)) (hA2 : ∀ i, i < 20 → (fun q : Nat => s.heap.size ≤ q) (ad2 i)) (hne : ∀ i j, i < 122 → j < 20 → ad1 i ≠ ad2 j) {H : Heap} {locs : List Loc} (hP1 : PW g ad1 122 (X0 g ad1) H) (hP2 : PW g ad2 20 (M0 g ad2) H) (hS : va_S (fun q : Nat => s.heap.size ≤ q) s.heap H locs) {ls : Array Slot} (hl : lv_has ls 4 [(0, .ref b), (1, .ref (ad1 0)), (2, .ref (ad2 0)), (3, .int 0)]) : W p l e room_1 s m #[Value.ref b] below meth c H locs 142 12631 (lw_Z below #[Value.ref b] s) (F0 m 1466 ls []) := by
  obtain ⟨hx, hb, hr, hml, hown, hts, hX, hbl, hlocks, hgv⟩ := id C0
  have hbA : ¬ (fun q : Nat => s.heap.size ≤ q) b := Nat.not_le.mpr hbl
  have E : Ev p s m #[Value.ref b] c cL_law "EbbWreckLaw" g := ⟨hx, hb, hown, fun w h => hts w (List.mem_filter.mp h).1, hK⟩
  have hQ1 : Hp g ad1 122 (X0 g ad1) (fun q : Nat => s.heap.size ≤ q) s.heap H locs := ⟨hP1, hS⟩
  refine lv_aload_n hx hb dL_law_1466 rfl (lv_at hl 1 rfl) ?_
  refine lv_aload_n hx hb dL_law_1467 rfl (lv_at hl 0 rfl) ?_
  refine lv_iload_n hx hb dL_law_1468 rfl (lv_at hl 3 rfl) ?_
  refine lv_iconst (v := 1) hx hb dL_law_1469 (by decide) ?_
  refine lv_iadd hx hb dL_law_1470 ?_
  refine sb_at (P := fun z => W _ _ _ _ _ _ _ _ _ _ _ _ _ _ _ (F0 _ _ _ (.int z :: _))) (show (0 : Int32) + 1 = 1 by decide) ?_
  refine va_sld hx hb hX hbl hbA hS (vp_in_lit 1 6 (by decide)) dL_law_1471 ?_
  refine xcVi E (hs := ⟨hD1, hA1⟩) hQ1 hml hl.1 0 (fX11_leaves l g ad1 hD1 (X0 g ad1) (fun i hi => rfl) (xs (1 : Int32).toNatClampNeg)) mX11_leaves q1267 (by decide) rfl rfl rfl ⟨(Nat.le_of_ble_eq_true rfl), (Nat.le_of_ble_eq_true rfl)⟩ ⟨(Nat.le_of_ble_eq_true rfl), (Nat.le_of_ble_eq_true rfl)⟩ (Nat.le_of_ble_eq_true rfl) rfl dL_law_1472 (fun r1 S1 H locs hp1 hQ1 hk1 => ?_)
  have hS := hQ1.2
  have hQ2 : Hp g ad2 20 (M0 g ad2) (fun q : Nat => s.heap.size ≤ q) s.heap H locs := ⟨pw_kept hP2 hk1 hne, hQ1.2⟩
  refine lv_aload_n hx hb dL_law_1475 rfl (lv_at hl 2 rfl) ?_
  refine lv_aload_n hx hb dL_law_1476 rfl (lv_at hl 0 rfl) ?_
  refine lv_iload_n hx hb dL_law_1477 rfl (lv_at hl 3 rfl) ?_
  refine lv_iconst (v := 1) hx hb dL_law_1478 (by decide) ?_
  refine lv_iadd hx hb dL_law_1479 ?_
  refine sb_at (P := fun z => W _ _ _ _ _ _ _ _ _ _ _ _ _ _ _ (F0 _ _ _ (.int z :: _))) (show (0 : Int32) + 1 = 1 by decide) ?_
  refine va_sld hx hb hX hbl hbA hS (vp_in_lit 1 6 (by decide)) dL_law_1480 ?_
  refine xcVi E (hs := ⟨hD2, hA2⟩) hQ2 hml hl.1 0 (fX12_leaves l g ad2 hD2 (M0 g ad2) (fun i hi => rfl) (xs (1 : Int32).toNatClampNeg)) mX12_leaves q2050 (by decide) rfl rfl rfl ⟨(Nat.le_of_ble_eq_true rfl), (Nat.le_of_ble_eq_true rfl)⟩ ⟨(Nat.le_of_ble_eq_true rfl), (Nat.le_of_ble_eq_true rfl)⟩ (Nat.le_of_ble_eq_true rfl) rfl dL_law_1481 (fun r2 S2 H locs hp2 hQ2 hk2 => ?_)
  have hS := hQ2.2
  refine lv_icmp_eq (tgt := 2159) hx hb dL_law_1484 (by decide) (fun _ => ?_) (fun h => absurd (Eq.trans hp1 (Eq.symm hp2)) h)
  exact law_tail C0 hS hl

set_option maxHeartbeats 4000000 in
set_option maxRecDepth 100000 in
theorem law_case_43 {p : Program} {l : Launch} {e : Env} {s : State} {m : MethodId} {below : List Frame} {meth : Method} {c : Code} {b : Nat} {xs : Nat → Int32} (C0 : lw_At p s m meth c b 6 xs) {g : GG} {ad1 ad2 : Nat → Nat} (hK : KK g s) (hD1 : Dj ad1 122) (hD2 : Dj ad2 20) (hA1 : ∀ i, i < 122 → (fun q : Nat => s.heap.size ≤ q) (ad1 i)) (hA2 : ∀ i, i < 20 → (fun q : Nat => s.heap.size ≤ q) (ad2 i)) (hne : ∀ i j, i < 122 → j < 20 → ad1 i ≠ ad2 j) {H : Heap} {locs : List Loc} (hP1 : PW g ad1 122 (X0 g ad1) H) (hP2 : PW g ad2 20 (M0 g ad2) H) (hS : va_S (fun q : Nat => s.heap.size ≤ q) s.heap H locs) {ls : Array Slot} (hl : lv_has ls 4 [(0, .ref b), (1, .ref (ad1 0)), (2, .ref (ad2 0)), (3, .int 0)]) : W p l e room_1 s m #[Value.ref b] below meth c H locs 142 12631 (lw_Z below #[Value.ref b] s) (F0 m 1489 ls []) := by
  obtain ⟨hx, hb, hr, hml, hown, hts, hX, hbl, hlocks, hgv⟩ := id C0
  have hbA : ¬ (fun q : Nat => s.heap.size ≤ q) b := Nat.not_le.mpr hbl
  have E : Ev p s m #[Value.ref b] c cL_law "EbbWreckLaw" g := ⟨hx, hb, hown, fun w h => hts w (List.mem_filter.mp h).1, hK⟩
  have hQ1 : Hp g ad1 122 (X0 g ad1) (fun q : Nat => s.heap.size ≤ q) s.heap H locs := ⟨hP1, hS⟩
  refine lv_aload_n hx hb dL_law_1489 rfl (lv_at hl 1 rfl) ?_
  refine lv_aload_n hx hb dL_law_1490 rfl (lv_at hl 0 rfl) ?_
  refine lv_iload_n hx hb dL_law_1491 rfl (lv_at hl 3 rfl) ?_
  refine lv_iconst (v := 1) hx hb dL_law_1492 (by decide) ?_
  refine lv_iadd hx hb dL_law_1493 ?_
  refine sb_at (P := fun z => W _ _ _ _ _ _ _ _ _ _ _ _ _ _ _ (F0 _ _ _ (.int z :: _))) (show (0 : Int32) + 1 = 1 by decide) ?_
  refine va_sld hx hb hX hbl hbA hS (vp_in_lit 1 6 (by decide)) dL_law_1494 ?_
  refine lv_aload_n hx hb dL_law_1495 rfl (lv_at hl 0 rfl) ?_
  refine lv_iload_n hx hb dL_law_1496 rfl (lv_at hl 3 rfl) ?_
  refine lv_iconst (v := 2) hx hb dL_law_1497 (by decide) ?_
  refine lv_iadd hx hb dL_law_1498 ?_
  refine sb_at (P := fun z => W _ _ _ _ _ _ _ _ _ _ _ _ _ _ _ (F0 _ _ _ (.int z :: _))) (show (0 : Int32) + 2 = 2 by decide) ?_
  refine va_sld hx hb hX hbl hbA hS (vp_in_lit 2 6 (by decide)) dL_law_1499 ?_
  refine xcVi E (hs := ⟨hD1, hA1⟩) hQ1 hml hl.1 0 (fX11_seat l g ad1 hD1 (X0 g ad1) (fun i hi => rfl) (xs (1 : Int32).toNatClampNeg) (xs (2 : Int32).toNatClampNeg)) mX11_seat q1290 (by decide) rfl rfl rfl ⟨(Nat.le_of_ble_eq_true rfl), (Nat.le_of_ble_eq_true rfl)⟩ ⟨(Nat.le_of_ble_eq_true rfl), (Nat.le_of_ble_eq_true rfl)⟩ (Nat.le_of_ble_eq_true rfl) rfl dL_law_1500 (fun r1 S1 H locs hp1 hQ1 hk1 => ?_)
  have hS := hQ1.2
  have hQ2 : Hp g ad2 20 (M0 g ad2) (fun q : Nat => s.heap.size ≤ q) s.heap H locs := ⟨pw_kept hP2 hk1 hne, hQ1.2⟩
  refine lv_aload_n hx hb dL_law_1503 rfl (lv_at hl 2 rfl) ?_
  refine lv_aload_n hx hb dL_law_1504 rfl (lv_at hl 0 rfl) ?_
  refine lv_iload_n hx hb dL_law_1505 rfl (lv_at hl 3 rfl) ?_
  refine lv_iconst (v := 1) hx hb dL_law_1506 (by decide) ?_
  refine lv_iadd hx hb dL_law_1507 ?_
  refine sb_at (P := fun z => W _ _ _ _ _ _ _ _ _ _ _ _ _ _ _ (F0 _ _ _ (.int z :: _))) (show (0 : Int32) + 1 = 1 by decide) ?_
  refine va_sld hx hb hX hbl hbA hS (vp_in_lit 1 6 (by decide)) dL_law_1508 ?_
  refine lv_aload_n hx hb dL_law_1509 rfl (lv_at hl 0 rfl) ?_
  refine lv_iload_n hx hb dL_law_1510 rfl (lv_at hl 3 rfl) ?_
  refine lv_iconst (v := 2) hx hb dL_law_1511 (by decide) ?_
  refine lv_iadd hx hb dL_law_1512 ?_
  refine sb_at (P := fun z => W _ _ _ _ _ _ _ _ _ _ _ _ _ _ _ (F0 _ _ _ (.int z :: _))) (show (0 : Int32) + 2 = 2 by decide) ?_
  refine va_sld hx hb hX hbl hbA hS (vp_in_lit 2 6 (by decide)) dL_law_1513 ?_
  refine xcVi E (hs := ⟨hD2, hA2⟩) hQ2 hml hl.1 0 (fX12_seat l g ad2 hD2 (M0 g ad2) (fun i hi => rfl) (xs (1 : Int32).toNatClampNeg) (xs (2 : Int32).toNatClampNeg)) mX12_seat q2054 (by decide) rfl rfl rfl ⟨(Nat.le_of_ble_eq_true rfl), (Nat.le_of_ble_eq_true rfl)⟩ ⟨(Nat.le_of_ble_eq_true rfl), (Nat.le_of_ble_eq_true rfl)⟩ (Nat.le_of_ble_eq_true rfl) rfl dL_law_1514 (fun r2 S2 H locs hp2 hQ2 hk2 => ?_)
  have hS := hQ2.2
  refine lv_icmp_eq (tgt := 2159) hx hb dL_law_1517 (by decide) (fun _ => ?_) (fun h => absurd (Eq.trans hp1.2 (Eq.symm hp2)) h)
  exact law_tail C0 hS hl

set_option maxHeartbeats 4000000 in
set_option maxRecDepth 100000 in
theorem law_case_44 {p : Program} {l : Launch} {e : Env} {s : State} {m : MethodId} {below : List Frame} {meth : Method} {c : Code} {b : Nat} {xs : Nat → Int32} (C0 : lw_At p s m meth c b 6 xs) {g : GG} {ad1 ad2 : Nat → Nat} (hK : KK g s) (hD1 : Dj ad1 122) (hD2 : Dj ad2 20) (hA1 : ∀ i, i < 122 → (fun q : Nat => s.heap.size ≤ q) (ad1 i)) (hA2 : ∀ i, i < 20 → (fun q : Nat => s.heap.size ≤ q) (ad2 i)) (hne : ∀ i j, i < 122 → j < 20 → ad1 i ≠ ad2 j) {H : Heap} {locs : List Loc} (hP1 : PW g ad1 122 (X0 g ad1) H) (hP2 : PW g ad2 20 (M0 g ad2) H) (hS : va_S (fun q : Nat => s.heap.size ≤ q) s.heap H locs) {ls : Array Slot} (hl : lv_has ls 4 [(0, .ref b), (1, .ref (ad1 0)), (2, .ref (ad2 0)), (3, .int 0)]) : W p l e room_1 s m #[Value.ref b] below meth c H locs 142 12631 (lw_Z below #[Value.ref b] s) (F0 m 1522 ls []) := by
  obtain ⟨hx, hb, hr, hml, hown, hts, hX, hbl, hlocks, hgv⟩ := id C0
  have hbA : ¬ (fun q : Nat => s.heap.size ≤ q) b := Nat.not_le.mpr hbl
  have E : Ev p s m #[Value.ref b] c cL_law "EbbWreckLaw" g := ⟨hx, hb, hown, fun w h => hts w (List.mem_filter.mp h).1, hK⟩
  have hQ1 : Hp g ad1 122 (X0 g ad1) (fun q : Nat => s.heap.size ≤ q) s.heap H locs := ⟨hP1, hS⟩
  refine lv_aload_n hx hb dL_law_1522 rfl (lv_at hl 1 rfl) ?_
  refine lv_aload_n hx hb dL_law_1523 rfl (lv_at hl 0 rfl) ?_
  refine lv_iload_n hx hb dL_law_1524 rfl (lv_at hl 3 rfl) ?_
  refine lv_iconst (v := 1) hx hb dL_law_1525 (by decide) ?_
  refine lv_iadd hx hb dL_law_1526 ?_
  refine sb_at (P := fun z => W _ _ _ _ _ _ _ _ _ _ _ _ _ _ _ (F0 _ _ _ (.int z :: _))) (show (0 : Int32) + 1 = 1 by decide) ?_
  refine va_sld hx hb hX hbl hbA hS (vp_in_lit 1 6 (by decide)) dL_law_1527 ?_
  refine xcVi E (hs := ⟨hD1, hA1⟩) hQ1 hml hl.1 0 (fX11_seats l g ad1 hD1 (X0 g ad1) (fun i hi => rfl) (xs (1 : Int32).toNatClampNeg)) mX11_seats q1294 (by decide) rfl rfl rfl ⟨(Nat.le_of_ble_eq_true rfl), (Nat.le_of_ble_eq_true rfl)⟩ ⟨(Nat.le_of_ble_eq_true rfl), (Nat.le_of_ble_eq_true rfl)⟩ (Nat.le_of_ble_eq_true rfl) rfl dL_law_1528 (fun r1 S1 H locs hp1 hQ1 hk1 => ?_)
  have hS := hQ1.2
  have hQ2 : Hp g ad2 20 (M0 g ad2) (fun q : Nat => s.heap.size ≤ q) s.heap H locs := ⟨pw_kept hP2 hk1 hne, hQ1.2⟩
  refine lv_aload_n hx hb dL_law_1531 rfl (lv_at hl 2 rfl) ?_
  refine lv_aload_n hx hb dL_law_1532 rfl (lv_at hl 0 rfl) ?_
  refine lv_iload_n hx hb dL_law_1533 rfl (lv_at hl 3 rfl) ?_
  refine lv_iconst (v := 1) hx hb dL_law_1534 (by decide) ?_
  refine lv_iadd hx hb dL_law_1535 ?_
  refine sb_at (P := fun z => W _ _ _ _ _ _ _ _ _ _ _ _ _ _ _ (F0 _ _ _ (.int z :: _))) (show (0 : Int32) + 1 = 1 by decide) ?_
  refine va_sld hx hb hX hbl hbA hS (vp_in_lit 1 6 (by decide)) dL_law_1536 ?_
  refine xcVi E (hs := ⟨hD2, hA2⟩) hQ2 hml hl.1 0 (fX12_seats l g ad2 hD2 (M0 g ad2) (fun i hi => rfl) (xs (1 : Int32).toNatClampNeg)) mX12_seats q2066 (by decide) rfl rfl rfl ⟨(Nat.le_of_ble_eq_true rfl), (Nat.le_of_ble_eq_true rfl)⟩ ⟨(Nat.le_of_ble_eq_true rfl), (Nat.le_of_ble_eq_true rfl)⟩ (Nat.le_of_ble_eq_true rfl) rfl dL_law_1537 (fun r2 S2 H locs hp2 hQ2 hk2 => ?_)
  have hS := hQ2.2
  refine lv_icmp_eq (tgt := 2159) hx hb dL_law_1540 (by decide) (fun _ => ?_) (fun h => absurd (Eq.trans hp1.2 (Eq.symm hp2)) h)
  exact law_tail C0 hS hl

set_option maxHeartbeats 4000000 in
set_option maxRecDepth 100000 in
theorem law_case_45 {p : Program} {l : Launch} {e : Env} {s : State} {m : MethodId} {below : List Frame} {meth : Method} {c : Code} {b : Nat} {xs : Nat → Int32} (C0 : lw_At p s m meth c b 6 xs) {g : GG} {ad1 ad2 : Nat → Nat} (hK : KK g s) (hD1 : Dj ad1 122) (hD2 : Dj ad2 20) (hA1 : ∀ i, i < 122 → (fun q : Nat => s.heap.size ≤ q) (ad1 i)) (hA2 : ∀ i, i < 20 → (fun q : Nat => s.heap.size ≤ q) (ad2 i)) (hne : ∀ i j, i < 122 → j < 20 → ad1 i ≠ ad2 j) {H : Heap} {locs : List Loc} (hP1 : PW g ad1 122 (X0 g ad1) H) (hP2 : PW g ad2 20 (M0 g ad2) H) (hS : va_S (fun q : Nat => s.heap.size ≤ q) s.heap H locs) {ls : Array Slot} (hl : lv_has ls 4 [(0, .ref b), (1, .ref (ad1 0)), (2, .ref (ad2 0)), (3, .int 0)]) : W p l e room_1 s m #[Value.ref b] below meth c H locs 142 12631 (lw_Z below #[Value.ref b] s) (F0 m 1545 ls []) := by
  obtain ⟨hx, hb, hr, hml, hown, hts, hX, hbl, hlocks, hgv⟩ := id C0
  have hbA : ¬ (fun q : Nat => s.heap.size ≤ q) b := Nat.not_le.mpr hbl
  have E : Ev p s m #[Value.ref b] c cL_law "EbbWreckLaw" g := ⟨hx, hb, hown, fun w h => hts w (List.mem_filter.mp h).1, hK⟩
  have hQ1 : Hp g ad1 122 (X0 g ad1) (fun q : Nat => s.heap.size ≤ q) s.heap H locs := ⟨hP1, hS⟩
  refine lv_aload_n hx hb dL_law_1545 rfl (lv_at hl 1 rfl) ?_
  refine xcVi E (hs := ⟨hD1, hA1⟩) hQ1 hml hl.1 0 (fX11_rests l g ad1 hD1 (X0 g ad1) (fun i hi => rfl)) mX11_rests q1303 (by decide) rfl rfl rfl ⟨(Nat.le_of_ble_eq_true rfl), (Nat.le_of_ble_eq_true rfl)⟩ ⟨(Nat.le_of_ble_eq_true rfl), (Nat.le_of_ble_eq_true rfl)⟩ (Nat.le_of_ble_eq_true rfl) rfl dL_law_1546 (fun r1 S1 H locs hp1 hQ1 hk1 => ?_)
  have hS := hQ1.2
  have hQ2 : Hp g ad2 20 (M0 g ad2) (fun q : Nat => s.heap.size ≤ q) s.heap H locs := ⟨pw_kept hP2 hk1 hne, hQ1.2⟩
  refine lv_aload_n hx hb dL_law_1549 rfl (lv_at hl 2 rfl) ?_
  refine xcVi E (hs := ⟨hD2, hA2⟩) hQ2 hml hl.1 0 (fX12_rests_ l g ad2 hD2 (M0 g ad2) (fun i hi => rfl)) mX12_rests_ q2074 (by decide) rfl rfl rfl ⟨(Nat.le_of_ble_eq_true rfl), (Nat.le_of_ble_eq_true rfl)⟩ ⟨(Nat.le_of_ble_eq_true rfl), (Nat.le_of_ble_eq_true rfl)⟩ (Nat.le_of_ble_eq_true rfl) rfl dL_law_1550 (fun r2 S2 H locs hp2 hQ2 hk2 => ?_)
  have hS := hQ2.2
  refine lv_icmp_eq (tgt := 2159) hx hb dL_law_1553 (by decide) (fun _ => ?_) (fun h => absurd (Eq.trans hp1.2 (Eq.symm hp2)) h)
  exact law_tail C0 hS hl

set_option maxHeartbeats 4000000 in
set_option maxRecDepth 100000 in
theorem law_case_46 {p : Program} {l : Launch} {e : Env} {s : State} {m : MethodId} {below : List Frame} {meth : Method} {c : Code} {b : Nat} {xs : Nat → Int32} (C0 : lw_At p s m meth c b 6 xs) {g : GG} {ad1 ad2 : Nat → Nat} (hK : KK g s) (hD1 : Dj ad1 122) (hD2 : Dj ad2 20) (hA1 : ∀ i, i < 122 → (fun q : Nat => s.heap.size ≤ q) (ad1 i)) (hA2 : ∀ i, i < 20 → (fun q : Nat => s.heap.size ≤ q) (ad2 i)) (hne : ∀ i j, i < 122 → j < 20 → ad1 i ≠ ad2 j) {H : Heap} {locs : List Loc} (hP1 : PW g ad1 122 (X0 g ad1) H) (hP2 : PW g ad2 20 (M0 g ad2) H) (hS : va_S (fun q : Nat => s.heap.size ≤ q) s.heap H locs) {ls : Array Slot} (hl : lv_has ls 4 [(0, .ref b), (1, .ref (ad1 0)), (2, .ref (ad2 0)), (3, .int 0)]) : W p l e room_1 s m #[Value.ref b] below meth c H locs 142 12631 (lw_Z below #[Value.ref b] s) (F0 m 1558 ls []) := by
  obtain ⟨hx, hb, hr, hml, hown, hts, hX, hbl, hlocks, hgv⟩ := id C0
  have hbA : ¬ (fun q : Nat => s.heap.size ≤ q) b := Nat.not_le.mpr hbl
  have E : Ev p s m #[Value.ref b] c cL_law "EbbWreckLaw" g := ⟨hx, hb, hown, fun w h => hts w (List.mem_filter.mp h).1, hK⟩
  have hQ1 : Hp g ad1 122 (X0 g ad1) (fun q : Nat => s.heap.size ≤ q) s.heap H locs := ⟨hP1, hS⟩
  refine lv_aload_n hx hb dL_law_1558 rfl (lv_at hl 1 rfl) ?_
  refine lv_aload_n hx hb dL_law_1559 rfl (lv_at hl 0 rfl) ?_
  refine lv_iload_n hx hb dL_law_1560 rfl (lv_at hl 3 rfl) ?_
  refine lv_iconst (v := 1) hx hb dL_law_1561 (by decide) ?_
  refine lv_iadd hx hb dL_law_1562 ?_
  refine sb_at (P := fun z => W _ _ _ _ _ _ _ _ _ _ _ _ _ _ _ (F0 _ _ _ (.int z :: _))) (show (0 : Int32) + 1 = 1 by decide) ?_
  refine va_sld hx hb hX hbl hbA hS (vp_in_lit 1 6 (by decide)) dL_law_1563 ?_
  refine xcVi E (hs := ⟨hD1, hA1⟩) hQ1 hml hl.1 0 (fX11_rest l g ad1 hD1 (X0 g ad1) (fun i hi => rfl) (xs (1 : Int32).toNatClampNeg)) mX11_rest q1333 (by decide) rfl rfl rfl ⟨(Nat.le_of_ble_eq_true rfl), (Nat.le_of_ble_eq_true rfl)⟩ ⟨(Nat.le_of_ble_eq_true rfl), (Nat.le_of_ble_eq_true rfl)⟩ (Nat.le_of_ble_eq_true rfl) rfl dL_law_1564 (fun r1 S1 H locs hp1 hQ1 hk1 => ?_)
  have hS := hQ1.2
  have hQ2 : Hp g ad2 20 (M0 g ad2) (fun q : Nat => s.heap.size ≤ q) s.heap H locs := ⟨pw_kept hP2 hk1 hne, hQ1.2⟩
  refine lv_aload_n hx hb dL_law_1567 rfl (lv_at hl 2 rfl) ?_
  refine lv_aload_n hx hb dL_law_1568 rfl (lv_at hl 0 rfl) ?_
  refine lv_iload_n hx hb dL_law_1569 rfl (lv_at hl 3 rfl) ?_
  refine lv_iconst (v := 1) hx hb dL_law_1570 (by decide) ?_
  refine lv_iadd hx hb dL_law_1571 ?_
  refine sb_at (P := fun z => W _ _ _ _ _ _ _ _ _ _ _ _ _ _ _ (F0 _ _ _ (.int z :: _))) (show (0 : Int32) + 1 = 1 by decide) ?_
  refine va_sld hx hb hX hbl hbA hS (vp_in_lit 1 6 (by decide)) dL_law_1572 ?_
  refine xcVi E (hs := ⟨hD2, hA2⟩) hQ2 hml hl.1 0 (fX12_rest l g ad2 hD2 (M0 g ad2) (fun i hi => rfl) (xs (1 : Int32).toNatClampNeg)) mX12_rest q2086 (by decide) rfl rfl rfl ⟨(Nat.le_of_ble_eq_true rfl), (Nat.le_of_ble_eq_true rfl)⟩ ⟨(Nat.le_of_ble_eq_true rfl), (Nat.le_of_ble_eq_true rfl)⟩ (Nat.le_of_ble_eq_true rfl) rfl dL_law_1573 (fun r2 S2 H locs hp2 hQ2 hk2 => ?_)
  have hS := hQ2.2
  refine lv_icmp_eq (tgt := 2159) hx hb dL_law_1576 (by decide) (fun _ => ?_) (fun h => absurd (Eq.trans hp1.2 (Eq.symm hp2)) h)
  exact law_tail C0 hS hl

set_option maxHeartbeats 4000000 in
set_option maxRecDepth 100000 in
theorem law_case_47 {p : Program} {l : Launch} {e : Env} {s : State} {m : MethodId} {below : List Frame} {meth : Method} {c : Code} {b : Nat} {xs : Nat → Int32} (C0 : lw_At p s m meth c b 6 xs) {g : GG} {ad1 ad2 : Nat → Nat} (hK : KK g s) (hD1 : Dj ad1 122) (hD2 : Dj ad2 20) (hA1 : ∀ i, i < 122 → (fun q : Nat => s.heap.size ≤ q) (ad1 i)) (hA2 : ∀ i, i < 20 → (fun q : Nat => s.heap.size ≤ q) (ad2 i)) (hne : ∀ i j, i < 122 → j < 20 → ad1 i ≠ ad2 j) {H : Heap} {locs : List Loc} (hP1 : PW g ad1 122 (X0 g ad1) H) (hP2 : PW g ad2 20 (M0 g ad2) H) (hS : va_S (fun q : Nat => s.heap.size ≤ q) s.heap H locs) {ls : Array Slot} (hl : lv_has ls 4 [(0, .ref b), (1, .ref (ad1 0)), (2, .ref (ad2 0)), (3, .int 0)]) : W p l e room_1 s m #[Value.ref b] below meth c H locs 142 12631 (lw_Z below #[Value.ref b] s) (F0 m 1581 ls []) := by
  obtain ⟨hx, hb, hr, hml, hown, hts, hX, hbl, hlocks, hgv⟩ := id C0
  have hbA : ¬ (fun q : Nat => s.heap.size ≤ q) b := Nat.not_le.mpr hbl
  have E : Ev p s m #[Value.ref b] c cL_law "EbbWreckLaw" g := ⟨hx, hb, hown, fun w h => hts w (List.mem_filter.mp h).1, hK⟩
  have hQ1 : Hp g ad1 122 (X0 g ad1) (fun q : Nat => s.heap.size ≤ q) s.heap H locs := ⟨hP1, hS⟩
  refine lv_aload_n hx hb dL_law_1581 rfl (lv_at hl 1 rfl) ?_
  refine lv_aload_n hx hb dL_law_1582 rfl (lv_at hl 0 rfl) ?_
  refine lv_iload_n hx hb dL_law_1583 rfl (lv_at hl 3 rfl) ?_
  refine lv_iconst (v := 1) hx hb dL_law_1584 (by decide) ?_
  refine lv_iadd hx hb dL_law_1585 ?_
  refine sb_at (P := fun z => W _ _ _ _ _ _ _ _ _ _ _ _ _ _ _ (F0 _ _ _ (.int z :: _))) (show (0 : Int32) + 1 = 1 by decide) ?_
  refine va_sld hx hb hX hbl hbA hS (vp_in_lit 1 6 (by decide)) dL_law_1586 ?_
  refine lv_aload_n hx hb dL_law_1587 rfl (lv_at hl 0 rfl) ?_
  refine lv_iload_n hx hb dL_law_1588 rfl (lv_at hl 3 rfl) ?_
  refine lv_iconst (v := 2) hx hb dL_law_1589 (by decide) ?_
  refine lv_iadd hx hb dL_law_1590 ?_
  refine sb_at (P := fun z => W _ _ _ _ _ _ _ _ _ _ _ _ _ _ _ (F0 _ _ _ (.int z :: _))) (show (0 : Int32) + 2 = 2 by decide) ?_
  refine va_sld hx hb hX hbl hbA hS (vp_in_lit 2 6 (by decide)) dL_law_1591 ?_
  refine xcVi E (hs := ⟨hD1, hA1⟩) hQ1 hml hl.1 0 (fX11_clock l g ad1 hD1 (X0 g ad1) (fun i hi => rfl) (xs (1 : Int32).toNatClampNeg) (xs (2 : Int32).toNatClampNeg)) mX11_clock q1032 (by decide) rfl rfl rfl ⟨(Nat.le_of_ble_eq_true rfl), (Nat.le_of_ble_eq_true rfl)⟩ ⟨(Nat.le_of_ble_eq_true rfl), (Nat.le_of_ble_eq_true rfl)⟩ (Nat.le_of_ble_eq_true rfl) rfl dL_law_1592 (fun r1 S1 H locs hp1 hQ1 hk1 => ?_)
  have hS := hQ1.2
  have hQ2 : Hp g ad2 20 (M0 g ad2) (fun q : Nat => s.heap.size ≤ q) s.heap H locs := ⟨pw_kept hP2 hk1 hne, hQ1.2⟩
  refine lv_aload_n hx hb dL_law_1595 rfl (lv_at hl 2 rfl) ?_
  refine lv_aload_n hx hb dL_law_1596 rfl (lv_at hl 0 rfl) ?_
  refine lv_iload_n hx hb dL_law_1597 rfl (lv_at hl 3 rfl) ?_
  refine lv_iconst (v := 1) hx hb dL_law_1598 (by decide) ?_
  refine lv_iadd hx hb dL_law_1599 ?_
  refine sb_at (P := fun z => W _ _ _ _ _ _ _ _ _ _ _ _ _ _ _ (F0 _ _ _ (.int z :: _))) (show (0 : Int32) + 1 = 1 by decide) ?_
  refine va_sld hx hb hX hbl hbA hS (vp_in_lit 1 6 (by decide)) dL_law_1600 ?_
  refine lv_aload_n hx hb dL_law_1601 rfl (lv_at hl 0 rfl) ?_
  refine lv_iload_n hx hb dL_law_1602 rfl (lv_at hl 3 rfl) ?_
  refine lv_iconst (v := 2) hx hb dL_law_1603 (by decide) ?_
  refine lv_iadd hx hb dL_law_1604 ?_
  refine sb_at (P := fun z => W _ _ _ _ _ _ _ _ _ _ _ _ _ _ _ (F0 _ _ _ (.int z :: _))) (show (0 : Int32) + 2 = 2 by decide) ?_
  refine va_sld hx hb hX hbl hbA hS (vp_in_lit 2 6 (by decide)) dL_law_1605 ?_
  refine xcVi E (hs := ⟨hD2, hA2⟩) hQ2 hml hl.1 0 (fX12_clock l g ad2 hD2 (M0 g ad2) (fun i hi => rfl) (xs (1 : Int32).toNatClampNeg) (xs (2 : Int32).toNatClampNeg)) mX12_clock q2090 (by decide) rfl rfl rfl ⟨(Nat.le_of_ble_eq_true rfl), (Nat.le_of_ble_eq_true rfl)⟩ ⟨(Nat.le_of_ble_eq_true rfl), (Nat.le_of_ble_eq_true rfl)⟩ (Nat.le_of_ble_eq_true rfl) rfl dL_law_1606 (fun r2 S2 H locs hp2 hQ2 hk2 => ?_)
  have hS := hQ2.2
  refine lv_icmp_eq (tgt := 2159) hx hb dL_law_1609 (by decide) (fun _ => ?_) (fun h => absurd (Eq.trans hp1.2 (Eq.symm hp2)) h)
  exact law_tail C0 hS hl

set_option maxHeartbeats 4000000 in
set_option maxRecDepth 100000 in
theorem law_case_48 {p : Program} {l : Launch} {e : Env} {s : State} {m : MethodId} {below : List Frame} {meth : Method} {c : Code} {b : Nat} {xs : Nat → Int32} (C0 : lw_At p s m meth c b 6 xs) {g : GG} {ad1 ad2 : Nat → Nat} (hK : KK g s) (hD1 : Dj ad1 122) (hD2 : Dj ad2 20) (hA1 : ∀ i, i < 122 → (fun q : Nat => s.heap.size ≤ q) (ad1 i)) (hA2 : ∀ i, i < 20 → (fun q : Nat => s.heap.size ≤ q) (ad2 i)) (hne : ∀ i j, i < 122 → j < 20 → ad1 i ≠ ad2 j) {H : Heap} {locs : List Loc} (hP1 : PW g ad1 122 (X0 g ad1) H) (hP2 : PW g ad2 20 (M0 g ad2) H) (hS : va_S (fun q : Nat => s.heap.size ≤ q) s.heap H locs) {ls : Array Slot} (hl : lv_has ls 4 [(0, .ref b), (1, .ref (ad1 0)), (2, .ref (ad2 0)), (3, .int 0)]) : W p l e room_1 s m #[Value.ref b] below meth c H locs 142 12631 (lw_Z below #[Value.ref b] s) (F0 m 1614 ls []) := by
  obtain ⟨hx, hb, hr, hml, hown, hts, hX, hbl, hlocks, hgv⟩ := id C0
  have hbA : ¬ (fun q : Nat => s.heap.size ≤ q) b := Nat.not_le.mpr hbl
  have E : Ev p s m #[Value.ref b] c cL_law "EbbWreckLaw" g := ⟨hx, hb, hown, fun w h => hts w (List.mem_filter.mp h).1, hK⟩
  have hQ1 : Hp g ad1 122 (X0 g ad1) (fun q : Nat => s.heap.size ≤ q) s.heap H locs := ⟨hP1, hS⟩
  refine lv_aload_n hx hb dL_law_1614 rfl (lv_at hl 1 rfl) ?_
  refine lv_aload_n hx hb dL_law_1615 rfl (lv_at hl 0 rfl) ?_
  refine lv_iload_n hx hb dL_law_1616 rfl (lv_at hl 3 rfl) ?_
  refine lv_iconst (v := 1) hx hb dL_law_1617 (by decide) ?_
  refine lv_iadd hx hb dL_law_1618 ?_
  refine sb_at (P := fun z => W _ _ _ _ _ _ _ _ _ _ _ _ _ _ _ (F0 _ _ _ (.int z :: _))) (show (0 : Int32) + 1 = 1 by decide) ?_
  refine va_sld hx hb hX hbl hbA hS (vp_in_lit 1 6 (by decide)) dL_law_1619 ?_
  refine xcVi E (hs := ⟨hD1, hA1⟩) hQ1 hml hl.1 0 (fX11_set l g ad1 hD1 (X0 g ad1) (fun i hi => rfl) (xs (1 : Int32).toNatClampNeg)) mX11_set q1036 (by decide) rfl rfl rfl ⟨(Nat.le_of_ble_eq_true rfl), (Nat.le_of_ble_eq_true rfl)⟩ ⟨(Nat.le_of_ble_eq_true rfl), (Nat.le_of_ble_eq_true rfl)⟩ (Nat.le_of_ble_eq_true rfl) rfl dL_law_1620 (fun r1 S1 H locs hp1 hQ1 hk1 => ?_)
  have hS := hQ1.2
  have hQ2 : Hp g ad2 20 (M0 g ad2) (fun q : Nat => s.heap.size ≤ q) s.heap H locs := ⟨pw_kept hP2 hk1 hne, hQ1.2⟩
  refine lv_aload_n hx hb dL_law_1623 rfl (lv_at hl 2 rfl) ?_
  refine lv_aload_n hx hb dL_law_1624 rfl (lv_at hl 0 rfl) ?_
  refine lv_iload_n hx hb dL_law_1625 rfl (lv_at hl 3 rfl) ?_
  refine lv_iconst (v := 1) hx hb dL_law_1626 (by decide) ?_
  refine lv_iadd hx hb dL_law_1627 ?_
  refine sb_at (P := fun z => W _ _ _ _ _ _ _ _ _ _ _ _ _ _ _ (F0 _ _ _ (.int z :: _))) (show (0 : Int32) + 1 = 1 by decide) ?_
  refine va_sld hx hb hX hbl hbA hS (vp_in_lit 1 6 (by decide)) dL_law_1628 ?_
  refine xcVi E (hs := ⟨hD2, hA2⟩) hQ2 hml hl.1 0 (fX12_set l g ad2 hD2 (M0 g ad2) (fun i hi => rfl) (xs (1 : Int32).toNatClampNeg)) mX12_set q2096 (by decide) rfl rfl rfl ⟨(Nat.le_of_ble_eq_true rfl), (Nat.le_of_ble_eq_true rfl)⟩ ⟨(Nat.le_of_ble_eq_true rfl), (Nat.le_of_ble_eq_true rfl)⟩ (Nat.le_of_ble_eq_true rfl) rfl dL_law_1629 (fun r2 S2 H locs hp2 hQ2 hk2 => ?_)
  have hS := hQ2.2
  refine lv_icmp_eq (tgt := 2159) hx hb dL_law_1632 (by decide) (fun _ => ?_) (fun h => absurd (Eq.trans hp1.2 (Eq.symm hp2)) h)
  exact law_tail C0 hS hl

set_option maxHeartbeats 4000000 in
set_option maxRecDepth 100000 in
theorem law_case_49 {p : Program} {l : Launch} {e : Env} {s : State} {m : MethodId} {below : List Frame} {meth : Method} {c : Code} {b : Nat} {xs : Nat → Int32} (C0 : lw_At p s m meth c b 6 xs) {g : GG} {ad1 ad2 : Nat → Nat} (hK : KK g s) (hD1 : Dj ad1 122) (hD2 : Dj ad2 20) (hA1 : ∀ i, i < 122 → (fun q : Nat => s.heap.size ≤ q) (ad1 i)) (hA2 : ∀ i, i < 20 → (fun q : Nat => s.heap.size ≤ q) (ad2 i)) (hne : ∀ i j, i < 122 → j < 20 → ad1 i ≠ ad2 j) {H : Heap} {locs : List Loc} (hP1 : PW g ad1 122 (X0 g ad1) H) (hP2 : PW g ad2 20 (M0 g ad2) H) (hS : va_S (fun q : Nat => s.heap.size ≤ q) s.heap H locs) {ls : Array Slot} (hl : lv_has ls 4 [(0, .ref b), (1, .ref (ad1 0)), (2, .ref (ad2 0)), (3, .int 0)]) : W p l e room_1 s m #[Value.ref b] below meth c H locs 142 12631 (lw_Z below #[Value.ref b] s) (F0 m 1637 ls []) := by
  obtain ⟨hx, hb, hr, hml, hown, hts, hX, hbl, hlocks, hgv⟩ := id C0
  have hbA : ¬ (fun q : Nat => s.heap.size ≤ q) b := Nat.not_le.mpr hbl
  have E : Ev p s m #[Value.ref b] c cL_law "EbbWreckLaw" g := ⟨hx, hb, hown, fun w h => hts w (List.mem_filter.mp h).1, hK⟩
  have hQ1 : Hp g ad1 122 (X0 g ad1) (fun q : Nat => s.heap.size ≤ q) s.heap H locs := ⟨hP1, hS⟩
  refine lv_aload_n hx hb dL_law_1637 rfl (lv_at hl 1 rfl) ?_
  refine lv_aload_n hx hb dL_law_1638 rfl (lv_at hl 0 rfl) ?_
  refine lv_iload_n hx hb dL_law_1639 rfl (lv_at hl 3 rfl) ?_
  refine lv_iconst (v := 1) hx hb dL_law_1640 (by decide) ?_
  refine lv_iadd hx hb dL_law_1641 ?_
  refine sb_at (P := fun z => W _ _ _ _ _ _ _ _ _ _ _ _ _ _ _ (F0 _ _ _ (.int z :: _))) (show (0 : Int32) + 1 = 1 by decide) ?_
  refine va_sld hx hb hX hbl hbA hS (vp_in_lit 1 6 (by decide)) dL_law_1642 ?_
  refine lv_aload_n hx hb dL_law_1643 rfl (lv_at hl 0 rfl) ?_
  refine lv_iload_n hx hb dL_law_1644 rfl (lv_at hl 3 rfl) ?_
  refine lv_iconst (v := 2) hx hb dL_law_1645 (by decide) ?_
  refine lv_iadd hx hb dL_law_1646 ?_
  refine sb_at (P := fun z => W _ _ _ _ _ _ _ _ _ _ _ _ _ _ _ (F0 _ _ _ (.int z :: _))) (show (0 : Int32) + 2 = 2 by decide) ?_
  refine va_sld hx hb hX hbl hbA hS (vp_in_lit 2 6 (by decide)) dL_law_1647 ?_
  refine xcVi E (hs := ⟨hD1, hA1⟩) hQ1 hml hl.1 0 (fX11_sit l g ad1 hD1 (X0 g ad1) (fun i hi => rfl) (xs (1 : Int32).toNatClampNeg) (xs (2 : Int32).toNatClampNeg)) mX11_sit q1341 (by decide) rfl rfl rfl ⟨(Nat.le_of_ble_eq_true rfl), (Nat.le_of_ble_eq_true rfl)⟩ ⟨(Nat.le_of_ble_eq_true rfl), (Nat.le_of_ble_eq_true rfl)⟩ (Nat.le_of_ble_eq_true rfl) rfl dL_law_1648 (fun r1 S1 H locs hp1 hQ1 hk1 => ?_)
  have hS := hQ1.2
  have hQ2 : Hp g ad2 20 (M0 g ad2) (fun q : Nat => s.heap.size ≤ q) s.heap H locs := ⟨pw_kept hP2 hk1 hne, hQ1.2⟩
  refine lv_aload_n hx hb dL_law_1651 rfl (lv_at hl 2 rfl) ?_
  refine lv_aload_n hx hb dL_law_1652 rfl (lv_at hl 0 rfl) ?_
  refine lv_iload_n hx hb dL_law_1653 rfl (lv_at hl 3 rfl) ?_
  refine lv_iconst (v := 1) hx hb dL_law_1654 (by decide) ?_
  refine lv_iadd hx hb dL_law_1655 ?_
  refine sb_at (P := fun z => W _ _ _ _ _ _ _ _ _ _ _ _ _ _ _ (F0 _ _ _ (.int z :: _))) (show (0 : Int32) + 1 = 1 by decide) ?_
  refine va_sld hx hb hX hbl hbA hS (vp_in_lit 1 6 (by decide)) dL_law_1656 ?_
  refine lv_aload_n hx hb dL_law_1657 rfl (lv_at hl 0 rfl) ?_
  refine lv_iload_n hx hb dL_law_1658 rfl (lv_at hl 3 rfl) ?_
  refine lv_iconst (v := 2) hx hb dL_law_1659 (by decide) ?_
  refine lv_iadd hx hb dL_law_1660 ?_
  refine sb_at (P := fun z => W _ _ _ _ _ _ _ _ _ _ _ _ _ _ _ (F0 _ _ _ (.int z :: _))) (show (0 : Int32) + 2 = 2 by decide) ?_
  refine va_sld hx hb hX hbl hbA hS (vp_in_lit 2 6 (by decide)) dL_law_1661 ?_
  refine xcVi E (hs := ⟨hD2, hA2⟩) hQ2 hml hl.1 0 (fX12_sit l g ad2 hD2 (M0 g ad2) (fun i hi => rfl) (xs (1 : Int32).toNatClampNeg) (xs (2 : Int32).toNatClampNeg)) mX12_sit q2100 (by decide) rfl rfl rfl ⟨(Nat.le_of_ble_eq_true rfl), (Nat.le_of_ble_eq_true rfl)⟩ ⟨(Nat.le_of_ble_eq_true rfl), (Nat.le_of_ble_eq_true rfl)⟩ (Nat.le_of_ble_eq_true rfl) rfl dL_law_1662 (fun r2 S2 H locs hp2 hQ2 hk2 => ?_)
  have hS := hQ2.2
  refine lv_icmp_eq (tgt := 2159) hx hb dL_law_1665 (by decide) (fun _ => ?_) (fun h => absurd (Eq.trans hp1.2 (Eq.symm hp2)) h)
  exact law_tail C0 hS hl

set_option maxHeartbeats 4000000 in
set_option maxRecDepth 100000 in
theorem law_case_50 {p : Program} {l : Launch} {e : Env} {s : State} {m : MethodId} {below : List Frame} {meth : Method} {c : Code} {b : Nat} {xs : Nat → Int32} (C0 : lw_At p s m meth c b 6 xs) {g : GG} {ad1 ad2 : Nat → Nat} (hK : KK g s) (hD1 : Dj ad1 122) (hD2 : Dj ad2 20) (hA1 : ∀ i, i < 122 → (fun q : Nat => s.heap.size ≤ q) (ad1 i)) (hA2 : ∀ i, i < 20 → (fun q : Nat => s.heap.size ≤ q) (ad2 i)) (hne : ∀ i j, i < 122 → j < 20 → ad1 i ≠ ad2 j) {H : Heap} {locs : List Loc} (hP1 : PW g ad1 122 (X0 g ad1) H) (hP2 : PW g ad2 20 (M0 g ad2) H) (hS : va_S (fun q : Nat => s.heap.size ≤ q) s.heap H locs) {ls : Array Slot} (hl : lv_has ls 4 [(0, .ref b), (1, .ref (ad1 0)), (2, .ref (ad2 0)), (3, .int 0)]) : W p l e room_1 s m #[Value.ref b] below meth c H locs 142 12631 (lw_Z below #[Value.ref b] s) (F0 m 1670 ls []) := by
  obtain ⟨hx, hb, hr, hml, hown, hts, hX, hbl, hlocks, hgv⟩ := id C0
  have hbA : ¬ (fun q : Nat => s.heap.size ≤ q) b := Nat.not_le.mpr hbl
  have E : Ev p s m #[Value.ref b] c cL_law "EbbWreckLaw" g := ⟨hx, hb, hown, fun w h => hts w (List.mem_filter.mp h).1, hK⟩
  have hQ1 : Hp g ad1 122 (X0 g ad1) (fun q : Nat => s.heap.size ≤ q) s.heap H locs := ⟨hP1, hS⟩
  refine lv_aload_n hx hb dL_law_1670 rfl (lv_at hl 1 rfl) ?_
  refine lv_aload_n hx hb dL_law_1671 rfl (lv_at hl 0 rfl) ?_
  refine lv_iload_n hx hb dL_law_1672 rfl (lv_at hl 3 rfl) ?_
  refine lv_iconst (v := 1) hx hb dL_law_1673 (by decide) ?_
  refine lv_iadd hx hb dL_law_1674 ?_
  refine sb_at (P := fun z => W _ _ _ _ _ _ _ _ _ _ _ _ _ _ _ (F0 _ _ _ (.int z :: _))) (show (0 : Int32) + 1 = 1 by decide) ?_
  refine va_sld hx hb hX hbl hbA hS (vp_in_lit 1 6 (by decide)) dL_law_1675 ?_
  refine lv_aload_n hx hb dL_law_1676 rfl (lv_at hl 0 rfl) ?_
  refine lv_iload_n hx hb dL_law_1677 rfl (lv_at hl 3 rfl) ?_
  refine lv_iconst (v := 2) hx hb dL_law_1678 (by decide) ?_
  refine lv_iadd hx hb dL_law_1679 ?_
  refine sb_at (P := fun z => W _ _ _ _ _ _ _ _ _ _ _ _ _ _ _ (F0 _ _ _ (.int z :: _))) (show (0 : Int32) + 2 = 2 by decide) ?_
  refine va_sld hx hb hX hbl hbA hS (vp_in_lit 2 6 (by decide)) dL_law_1680 ?_
  refine lv_aload_n hx hb dL_law_1681 rfl (lv_at hl 0 rfl) ?_
  refine lv_iload_n hx hb dL_law_1682 rfl (lv_at hl 3 rfl) ?_
  refine lv_iconst (v := 3) hx hb dL_law_1683 (by decide) ?_
  refine lv_iadd hx hb dL_law_1684 ?_
  refine sb_at (P := fun z => W _ _ _ _ _ _ _ _ _ _ _ _ _ _ _ (F0 _ _ _ (.int z :: _))) (show (0 : Int32) + 3 = 3 by decide) ?_
  refine va_sld hx hb hX hbl hbA hS (vp_in_lit 3 6 (by decide)) dL_law_1685 ?_
  refine xcVi E (hs := ⟨hD1, hA1⟩) hQ1 hml hl.1 0 (fX11_shove l g ad1 hD1 (X0 g ad1) (fun i hi => rfl) (xs (1 : Int32).toNatClampNeg) (xs (2 : Int32).toNatClampNeg) (xs (3 : Int32).toNatClampNeg)) mX11_shove q1358 (by decide) rfl rfl rfl ⟨(Nat.le_of_ble_eq_true rfl), (Nat.le_of_ble_eq_true rfl)⟩ ⟨(Nat.le_of_ble_eq_true rfl), (Nat.le_of_ble_eq_true rfl)⟩ (Nat.le_of_ble_eq_true rfl) rfl dL_law_1686 (fun r1 S1 H locs hp1 hQ1 hk1 => ?_)
  have hS := hQ1.2
  have hQ2 : Hp g ad2 20 (M0 g ad2) (fun q : Nat => s.heap.size ≤ q) s.heap H locs := ⟨pw_kept hP2 hk1 hne, hQ1.2⟩
  refine lv_aload_n hx hb dL_law_1689 rfl (lv_at hl 2 rfl) ?_
  refine lv_aload_n hx hb dL_law_1690 rfl (lv_at hl 0 rfl) ?_
  refine lv_iload_n hx hb dL_law_1691 rfl (lv_at hl 3 rfl) ?_
  refine lv_iconst (v := 1) hx hb dL_law_1692 (by decide) ?_
  refine lv_iadd hx hb dL_law_1693 ?_
  refine sb_at (P := fun z => W _ _ _ _ _ _ _ _ _ _ _ _ _ _ _ (F0 _ _ _ (.int z :: _))) (show (0 : Int32) + 1 = 1 by decide) ?_
  refine va_sld hx hb hX hbl hbA hS (vp_in_lit 1 6 (by decide)) dL_law_1694 ?_
  refine lv_aload_n hx hb dL_law_1695 rfl (lv_at hl 0 rfl) ?_
  refine lv_iload_n hx hb dL_law_1696 rfl (lv_at hl 3 rfl) ?_
  refine lv_iconst (v := 2) hx hb dL_law_1697 (by decide) ?_
  refine lv_iadd hx hb dL_law_1698 ?_
  refine sb_at (P := fun z => W _ _ _ _ _ _ _ _ _ _ _ _ _ _ _ (F0 _ _ _ (.int z :: _))) (show (0 : Int32) + 2 = 2 by decide) ?_
  refine va_sld hx hb hX hbl hbA hS (vp_in_lit 2 6 (by decide)) dL_law_1699 ?_
  refine lv_aload_n hx hb dL_law_1700 rfl (lv_at hl 0 rfl) ?_
  refine lv_iload_n hx hb dL_law_1701 rfl (lv_at hl 3 rfl) ?_
  refine lv_iconst (v := 3) hx hb dL_law_1702 (by decide) ?_
  refine lv_iadd hx hb dL_law_1703 ?_
  refine sb_at (P := fun z => W _ _ _ _ _ _ _ _ _ _ _ _ _ _ _ (F0 _ _ _ (.int z :: _))) (show (0 : Int32) + 3 = 3 by decide) ?_
  refine va_sld hx hb hX hbl hbA hS (vp_in_lit 3 6 (by decide)) dL_law_1704 ?_
  refine xcVi E (hs := ⟨hD2, hA2⟩) hQ2 hml hl.1 0 (fX12_shove l g ad2 hD2 (M0 g ad2) (fun i hi => rfl) (xs (1 : Int32).toNatClampNeg) (xs (2 : Int32).toNatClampNeg) (xs (3 : Int32).toNatClampNeg)) mX12_shove q2112 (by decide) rfl rfl rfl ⟨(Nat.le_of_ble_eq_true rfl), (Nat.le_of_ble_eq_true rfl)⟩ ⟨(Nat.le_of_ble_eq_true rfl), (Nat.le_of_ble_eq_true rfl)⟩ (Nat.le_of_ble_eq_true rfl) rfl dL_law_1705 (fun r2 S2 H locs hp2 hQ2 hk2 => ?_)
  have hS := hQ2.2
  refine lv_icmp_eq (tgt := 2159) hx hb dL_law_1708 (by decide) (fun _ => ?_) (fun h => absurd (Eq.trans hp1.2 (Eq.symm hp2)) h)
  exact law_tail C0 hS hl

set_option maxHeartbeats 4000000 in
set_option maxRecDepth 100000 in
theorem law_case_51 {p : Program} {l : Launch} {e : Env} {s : State} {m : MethodId} {below : List Frame} {meth : Method} {c : Code} {b : Nat} {xs : Nat → Int32} (C0 : lw_At p s m meth c b 6 xs) {g : GG} {ad1 ad2 : Nat → Nat} (hK : KK g s) (hD1 : Dj ad1 122) (hD2 : Dj ad2 20) (hA1 : ∀ i, i < 122 → (fun q : Nat => s.heap.size ≤ q) (ad1 i)) (hA2 : ∀ i, i < 20 → (fun q : Nat => s.heap.size ≤ q) (ad2 i)) (hne : ∀ i j, i < 122 → j < 20 → ad1 i ≠ ad2 j) {H : Heap} {locs : List Loc} (hP1 : PW g ad1 122 (X0 g ad1) H) (hP2 : PW g ad2 20 (M0 g ad2) H) (hS : va_S (fun q : Nat => s.heap.size ≤ q) s.heap H locs) {ls : Array Slot} (hl : lv_has ls 4 [(0, .ref b), (1, .ref (ad1 0)), (2, .ref (ad2 0)), (3, .int 0)]) : W p l e room_1 s m #[Value.ref b] below meth c H locs 142 12631 (lw_Z below #[Value.ref b] s) (F0 m 1713 ls []) := by
  obtain ⟨hx, hb, hr, hml, hown, hts, hX, hbl, hlocks, hgv⟩ := id C0
  have hbA : ¬ (fun q : Nat => s.heap.size ≤ q) b := Nat.not_le.mpr hbl
  have E : Ev p s m #[Value.ref b] c cL_law "EbbWreckLaw" g := ⟨hx, hb, hown, fun w h => hts w (List.mem_filter.mp h).1, hK⟩
  have hQ1 : Hp g ad1 122 (X0 g ad1) (fun q : Nat => s.heap.size ≤ q) s.heap H locs := ⟨hP1, hS⟩
  refine lv_aload_n hx hb dL_law_1713 rfl (lv_at hl 1 rfl) ?_
  refine xcVi E (hs := ⟨hD1, hA1⟩) hQ1 hml hl.1 0 (fX11_undo l g ad1 hD1 (X0 g ad1) (fun i hi => rfl)) mX11_undo q1376 (by decide) rfl rfl rfl ⟨(Nat.le_of_ble_eq_true rfl), (Nat.le_of_ble_eq_true rfl)⟩ ⟨(Nat.le_of_ble_eq_true rfl), (Nat.le_of_ble_eq_true rfl)⟩ (Nat.le_of_ble_eq_true rfl) rfl dL_law_1714 (fun r1 S1 H locs hp1 hQ1 hk1 => ?_)
  have hS := hQ1.2
  have hQ2 : Hp g ad2 20 (M0 g ad2) (fun q : Nat => s.heap.size ≤ q) s.heap H locs := ⟨pw_kept hP2 hk1 hne, hQ1.2⟩
  refine lv_aload_n hx hb dL_law_1717 rfl (lv_at hl 2 rfl) ?_
  refine xcVi E (hs := ⟨hD2, hA2⟩) hQ2 hml hl.1 0 (fX12_undo l g ad2 hD2 (M0 g ad2) (fun i hi => rfl)) mX12_undo q2116 (by decide) rfl rfl rfl ⟨(Nat.le_of_ble_eq_true rfl), (Nat.le_of_ble_eq_true rfl)⟩ ⟨(Nat.le_of_ble_eq_true rfl), (Nat.le_of_ble_eq_true rfl)⟩ (Nat.le_of_ble_eq_true rfl) rfl dL_law_1718 (fun r2 S2 H locs hp2 hQ2 hk2 => ?_)
  have hS := hQ2.2
  refine lv_icmp_eq (tgt := 2159) hx hb dL_law_1721 (by decide) (fun _ => ?_) (fun h => absurd (Eq.trans hp1.2 (Eq.symm hp2)) h)
  exact law_tail C0 hS hl

set_option maxHeartbeats 4000000 in
set_option maxRecDepth 100000 in
theorem law_case_52 {p : Program} {l : Launch} {e : Env} {s : State} {m : MethodId} {below : List Frame} {meth : Method} {c : Code} {b : Nat} {xs : Nat → Int32} (C0 : lw_At p s m meth c b 6 xs) {g : GG} {ad1 ad2 : Nat → Nat} (hK : KK g s) (hD1 : Dj ad1 122) (hD2 : Dj ad2 20) (hA1 : ∀ i, i < 122 → (fun q : Nat => s.heap.size ≤ q) (ad1 i)) (hA2 : ∀ i, i < 20 → (fun q : Nat => s.heap.size ≤ q) (ad2 i)) (hne : ∀ i j, i < 122 → j < 20 → ad1 i ≠ ad2 j) {H : Heap} {locs : List Loc} (hP1 : PW g ad1 122 (X0 g ad1) H) (hP2 : PW g ad2 20 (M0 g ad2) H) (hS : va_S (fun q : Nat => s.heap.size ≤ q) s.heap H locs) {ls : Array Slot} (hl : lv_has ls 4 [(0, .ref b), (1, .ref (ad1 0)), (2, .ref (ad2 0)), (3, .int 0)]) : W p l e room_1 s m #[Value.ref b] below meth c H locs 142 12631 (lw_Z below #[Value.ref b] s) (F0 m 1726 ls []) := by
  obtain ⟨hx, hb, hr, hml, hown, hts, hX, hbl, hlocks, hgv⟩ := id C0
  have hbA : ¬ (fun q : Nat => s.heap.size ≤ q) b := Nat.not_le.mpr hbl
  have E : Ev p s m #[Value.ref b] c cL_law "EbbWreckLaw" g := ⟨hx, hb, hown, fun w h => hts w (List.mem_filter.mp h).1, hK⟩
  have hQ1 : Hp g ad1 122 (X0 g ad1) (fun q : Nat => s.heap.size ≤ q) s.heap H locs := ⟨hP1, hS⟩
  refine lv_aload_n hx hb dL_law_1726 rfl (lv_at hl 1 rfl) ?_
  refine xcVi E (hs := ⟨hD1, hA1⟩) hQ1 hml hl.1 0 (fX11_anew l g ad1 hD1 (X0 g ad1) (fun i hi => rfl)) mX11_anew q1384 (by decide) rfl rfl rfl ⟨(Nat.le_of_ble_eq_true rfl), (Nat.le_of_ble_eq_true rfl)⟩ ⟨(Nat.le_of_ble_eq_true rfl), (Nat.le_of_ble_eq_true rfl)⟩ (Nat.le_of_ble_eq_true rfl) rfl dL_law_1727 (fun r1 S1 H locs hp1 hQ1 hk1 => ?_)
  have hS := hQ1.2
  have hQ2 : Hp g ad2 20 (M0 g ad2) (fun q : Nat => s.heap.size ≤ q) s.heap H locs := ⟨pw_kept hP2 hk1 hne, hQ1.2⟩
  refine lv_aload_n hx hb dL_law_1730 rfl (lv_at hl 2 rfl) ?_
  refine xcVi E (hs := ⟨hD2, hA2⟩) hQ2 hml hl.1 0 (fX12_anew l g ad2 hD2 (M0 g ad2) (fun i hi => rfl)) mX12_anew q2120 (by decide) rfl rfl rfl ⟨(Nat.le_of_ble_eq_true rfl), (Nat.le_of_ble_eq_true rfl)⟩ ⟨(Nat.le_of_ble_eq_true rfl), (Nat.le_of_ble_eq_true rfl)⟩ (Nat.le_of_ble_eq_true rfl) rfl dL_law_1731 (fun r2 S2 H locs hp2 hQ2 hk2 => ?_)
  have hS := hQ2.2
  refine lv_icmp_eq (tgt := 2159) hx hb dL_law_1734 (by decide) (fun _ => ?_) (fun h => absurd (Eq.trans hp1.2 (Eq.symm hp2)) h)
  exact law_tail C0 hS hl

set_option maxHeartbeats 4000000 in
set_option maxRecDepth 100000 in
theorem law_case_53 {p : Program} {l : Launch} {e : Env} {s : State} {m : MethodId} {below : List Frame} {meth : Method} {c : Code} {b : Nat} {xs : Nat → Int32} (C0 : lw_At p s m meth c b 6 xs) {g : GG} {ad1 ad2 : Nat → Nat} (hK : KK g s) (hD1 : Dj ad1 122) (hD2 : Dj ad2 20) (hA1 : ∀ i, i < 122 → (fun q : Nat => s.heap.size ≤ q) (ad1 i)) (hA2 : ∀ i, i < 20 → (fun q : Nat => s.heap.size ≤ q) (ad2 i)) (hne : ∀ i j, i < 122 → j < 20 → ad1 i ≠ ad2 j) {H : Heap} {locs : List Loc} (hP1 : PW g ad1 122 (X0 g ad1) H) (hP2 : PW g ad2 20 (M0 g ad2) H) (hS : va_S (fun q : Nat => s.heap.size ≤ q) s.heap H locs) {ls : Array Slot} (hl : lv_has ls 4 [(0, .ref b), (1, .ref (ad1 0)), (2, .ref (ad2 0)), (3, .int 0)]) : W p l e room_1 s m #[Value.ref b] below meth c H locs 142 12631 (lw_Z below #[Value.ref b] s) (F0 m 1739 ls []) := by
  obtain ⟨hx, hb, hr, hml, hown, hts, hX, hbl, hlocks, hgv⟩ := id C0
  have hbA : ¬ (fun q : Nat => s.heap.size ≤ q) b := Nat.not_le.mpr hbl
  have E : Ev p s m #[Value.ref b] c cL_law "EbbWreckLaw" g := ⟨hx, hb, hown, fun w h => hts w (List.mem_filter.mp h).1, hK⟩
  have hQ1 : Hp g ad1 122 (X0 g ad1) (fun q : Nat => s.heap.size ≤ q) s.heap H locs := ⟨hP1, hS⟩
  refine lv_aload_n hx hb dL_law_1739 rfl (lv_at hl 1 rfl) ?_
  refine lv_aload_n hx hb dL_law_1740 rfl (lv_at hl 0 rfl) ?_
  refine lv_iload_n hx hb dL_law_1741 rfl (lv_at hl 3 rfl) ?_
  refine lv_iconst (v := 1) hx hb dL_law_1742 (by decide) ?_
  refine lv_iadd hx hb dL_law_1743 ?_
  refine sb_at (P := fun z => W _ _ _ _ _ _ _ _ _ _ _ _ _ _ _ (F0 _ _ _ (.int z :: _))) (show (0 : Int32) + 1 = 1 by decide) ?_
  refine va_sld hx hb hX hbl hbA hS (vp_in_lit 1 6 (by decide)) dL_law_1744 ?_
  refine lv_aload_n hx hb dL_law_1745 rfl (lv_at hl 0 rfl) ?_
  refine lv_iload_n hx hb dL_law_1746 rfl (lv_at hl 3 rfl) ?_
  refine lv_iconst (v := 2) hx hb dL_law_1747 (by decide) ?_
  refine lv_iadd hx hb dL_law_1748 ?_
  refine sb_at (P := fun z => W _ _ _ _ _ _ _ _ _ _ _ _ _ _ _ (F0 _ _ _ (.int z :: _))) (show (0 : Int32) + 2 = 2 by decide) ?_
  refine va_sld hx hb hX hbl hbA hS (vp_in_lit 2 6 (by decide)) dL_law_1749 ?_
  refine lv_aload_n hx hb dL_law_1750 rfl (lv_at hl 0 rfl) ?_
  refine lv_iload_n hx hb dL_law_1751 rfl (lv_at hl 3 rfl) ?_
  refine lv_iconst (v := 3) hx hb dL_law_1752 (by decide) ?_
  refine lv_iadd hx hb dL_law_1753 ?_
  refine sb_at (P := fun z => W _ _ _ _ _ _ _ _ _ _ _ _ _ _ _ (F0 _ _ _ (.int z :: _))) (show (0 : Int32) + 3 = 3 by decide) ?_
  refine va_sld hx hb hX hbl hbA hS (vp_in_lit 3 6 (by decide)) dL_law_1754 ?_
  refine xcVi E (hs := ⟨hD1, hA1⟩) hQ1 hml hl.1 0 (fX11_drawn l g ad1 hD1 (X0 g ad1) (fun i hi => rfl) (xs (1 : Int32).toNatClampNeg) (xs (2 : Int32).toNatClampNeg) (xs (3 : Int32).toNatClampNeg)) mX11_drawn q1392 (by decide) rfl rfl rfl ⟨(Nat.le_of_ble_eq_true rfl), (Nat.le_of_ble_eq_true rfl)⟩ ⟨(Nat.le_of_ble_eq_true rfl), (Nat.le_of_ble_eq_true rfl)⟩ (Nat.le_of_ble_eq_true rfl) rfl dL_law_1755 (fun r1 S1 H locs hp1 hQ1 hk1 => ?_)
  have hS := hQ1.2
  have hQ2 : Hp g ad2 20 (M0 g ad2) (fun q : Nat => s.heap.size ≤ q) s.heap H locs := ⟨pw_kept hP2 hk1 hne, hQ1.2⟩
  refine lv_aload_n hx hb dL_law_1758 rfl (lv_at hl 2 rfl) ?_
  refine lv_aload_n hx hb dL_law_1759 rfl (lv_at hl 0 rfl) ?_
  refine lv_iload_n hx hb dL_law_1760 rfl (lv_at hl 3 rfl) ?_
  refine lv_iconst (v := 1) hx hb dL_law_1761 (by decide) ?_
  refine lv_iadd hx hb dL_law_1762 ?_
  refine sb_at (P := fun z => W _ _ _ _ _ _ _ _ _ _ _ _ _ _ _ (F0 _ _ _ (.int z :: _))) (show (0 : Int32) + 1 = 1 by decide) ?_
  refine va_sld hx hb hX hbl hbA hS (vp_in_lit 1 6 (by decide)) dL_law_1763 ?_
  refine lv_aload_n hx hb dL_law_1764 rfl (lv_at hl 0 rfl) ?_
  refine lv_iload_n hx hb dL_law_1765 rfl (lv_at hl 3 rfl) ?_
  refine lv_iconst (v := 2) hx hb dL_law_1766 (by decide) ?_
  refine lv_iadd hx hb dL_law_1767 ?_
  refine sb_at (P := fun z => W _ _ _ _ _ _ _ _ _ _ _ _ _ _ _ (F0 _ _ _ (.int z :: _))) (show (0 : Int32) + 2 = 2 by decide) ?_
  refine va_sld hx hb hX hbl hbA hS (vp_in_lit 2 6 (by decide)) dL_law_1768 ?_
  refine lv_aload_n hx hb dL_law_1769 rfl (lv_at hl 0 rfl) ?_
  refine lv_iload_n hx hb dL_law_1770 rfl (lv_at hl 3 rfl) ?_
  refine lv_iconst (v := 3) hx hb dL_law_1771 (by decide) ?_
  refine lv_iadd hx hb dL_law_1772 ?_
  refine sb_at (P := fun z => W _ _ _ _ _ _ _ _ _ _ _ _ _ _ _ (F0 _ _ _ (.int z :: _))) (show (0 : Int32) + 3 = 3 by decide) ?_
  refine va_sld hx hb hX hbl hbA hS (vp_in_lit 3 6 (by decide)) dL_law_1773 ?_
  refine xcVi E (hs := ⟨hD2, hA2⟩) hQ2 hml hl.1 0 (fX12_drawn l g ad2 hD2 (M0 g ad2) (fun i hi => rfl) (xs (1 : Int32).toNatClampNeg) (xs (2 : Int32).toNatClampNeg) (xs (3 : Int32).toNatClampNeg)) mX12_drawn q2124 (by decide) rfl rfl rfl ⟨(Nat.le_of_ble_eq_true rfl), (Nat.le_of_ble_eq_true rfl)⟩ ⟨(Nat.le_of_ble_eq_true rfl), (Nat.le_of_ble_eq_true rfl)⟩ (Nat.le_of_ble_eq_true rfl) rfl dL_law_1774 (fun r2 S2 H locs hp2 hQ2 hk2 => ?_)
  have hS := hQ2.2
  refine lv_icmp_eq (tgt := 2159) hx hb dL_law_1777 (by decide) (fun _ => ?_) (fun h => absurd (Eq.trans hp1.2 (Eq.symm hp2)) h)
  exact law_tail C0 hS hl

set_option maxHeartbeats 4000000 in
set_option maxRecDepth 100000 in
theorem law_case_54 {p : Program} {l : Launch} {e : Env} {s : State} {m : MethodId} {below : List Frame} {meth : Method} {c : Code} {b : Nat} {xs : Nat → Int32} (C0 : lw_At p s m meth c b 6 xs) {g : GG} {ad1 ad2 : Nat → Nat} (hK : KK g s) (hD1 : Dj ad1 122) (hD2 : Dj ad2 20) (hA1 : ∀ i, i < 122 → (fun q : Nat => s.heap.size ≤ q) (ad1 i)) (hA2 : ∀ i, i < 20 → (fun q : Nat => s.heap.size ≤ q) (ad2 i)) (hne : ∀ i j, i < 122 → j < 20 → ad1 i ≠ ad2 j) {H : Heap} {locs : List Loc} (hP1 : PW g ad1 122 (X0 g ad1) H) (hP2 : PW g ad2 20 (M0 g ad2) H) (hS : va_S (fun q : Nat => s.heap.size ≤ q) s.heap H locs) {ls : Array Slot} (hl : lv_has ls 4 [(0, .ref b), (1, .ref (ad1 0)), (2, .ref (ad2 0)), (3, .int 0)]) : W p l e room_1 s m #[Value.ref b] below meth c H locs 142 12631 (lw_Z below #[Value.ref b] s) (F0 m 1782 ls []) := by
  obtain ⟨hx, hb, hr, hml, hown, hts, hX, hbl, hlocks, hgv⟩ := id C0
  have hbA : ¬ (fun q : Nat => s.heap.size ≤ q) b := Nat.not_le.mpr hbl
  have E : Ev p s m #[Value.ref b] c cL_law "EbbWreckLaw" g := ⟨hx, hb, hown, fun w h => hts w (List.mem_filter.mp h).1, hK⟩
  have hQ1 : Hp g ad1 122 (X0 g ad1) (fun q : Nat => s.heap.size ≤ q) s.heap H locs := ⟨hP1, hS⟩
  refine lv_aload_n hx hb dL_law_1782 rfl (lv_at hl 1 rfl) ?_
  refine lv_aload_n hx hb dL_law_1783 rfl (lv_at hl 0 rfl) ?_
  refine lv_iload_n hx hb dL_law_1784 rfl (lv_at hl 3 rfl) ?_
  refine lv_iconst (v := 1) hx hb dL_law_1785 (by decide) ?_
  refine lv_iadd hx hb dL_law_1786 ?_
  refine sb_at (P := fun z => W _ _ _ _ _ _ _ _ _ _ _ _ _ _ _ (F0 _ _ _ (.int z :: _))) (show (0 : Int32) + 1 = 1 by decide) ?_
  refine va_sld hx hb hX hbl hbA hS (vp_in_lit 1 6 (by decide)) dL_law_1787 ?_
  refine lv_aload_n hx hb dL_law_1788 rfl (lv_at hl 0 rfl) ?_
  refine lv_iload_n hx hb dL_law_1789 rfl (lv_at hl 3 rfl) ?_
  refine lv_iconst (v := 2) hx hb dL_law_1790 (by decide) ?_
  refine lv_iadd hx hb dL_law_1791 ?_
  refine sb_at (P := fun z => W _ _ _ _ _ _ _ _ _ _ _ _ _ _ _ (F0 _ _ _ (.int z :: _))) (show (0 : Int32) + 2 = 2 by decide) ?_
  refine va_sld hx hb hX hbl hbA hS (vp_in_lit 2 6 (by decide)) dL_law_1792 ?_
  refine lv_aload_n hx hb dL_law_1793 rfl (lv_at hl 0 rfl) ?_
  refine lv_iload_n hx hb dL_law_1794 rfl (lv_at hl 3 rfl) ?_
  refine lv_iconst (v := 3) hx hb dL_law_1795 (by decide) ?_
  refine lv_iadd hx hb dL_law_1796 ?_
  refine sb_at (P := fun z => W _ _ _ _ _ _ _ _ _ _ _ _ _ _ _ (F0 _ _ _ (.int z :: _))) (show (0 : Int32) + 3 = 3 by decide) ?_
  refine va_sld hx hb hX hbl hbA hS (vp_in_lit 3 6 (by decide)) dL_law_1797 ?_
  refine lv_aload_n hx hb dL_law_1798 rfl (lv_at hl 0 rfl) ?_
  refine lv_iload_n hx hb dL_law_1799 rfl (lv_at hl 3 rfl) ?_
  refine lv_iconst (v := 4) hx hb dL_law_1800 (by decide) ?_
  refine lv_iadd hx hb dL_law_1801 ?_
  refine sb_at (P := fun z => W _ _ _ _ _ _ _ _ _ _ _ _ _ _ _ (F0 _ _ _ (.int z :: _))) (show (0 : Int32) + 4 = 4 by decide) ?_
  refine va_sld hx hb hX hbl hbA hS (vp_in_lit 4 6 (by decide)) dL_law_1802 ?_
  refine xcVi E (hs := ⟨hD1, hA1⟩) hQ1 hml hl.1 0 (fX11_luck l g ad1 hD1 (X0 g ad1) (fun i hi => rfl) (xs (1 : Int32).toNatClampNeg) (xs (2 : Int32).toNatClampNeg) (xs (3 : Int32).toNatClampNeg) (xs (4 : Int32).toNatClampNeg)) mX11_luck q1406 (by decide) rfl rfl rfl ⟨(Nat.le_of_ble_eq_true rfl), (Nat.le_of_ble_eq_true rfl)⟩ ⟨(Nat.le_of_ble_eq_true rfl), (Nat.le_of_ble_eq_true rfl)⟩ (Nat.le_of_ble_eq_true rfl) rfl dL_law_1803 (fun r1 S1 H locs hp1 hQ1 hk1 => ?_)
  have hS := hQ1.2
  have hQ2 : Hp g ad2 20 (M0 g ad2) (fun q : Nat => s.heap.size ≤ q) s.heap H locs := ⟨pw_kept hP2 hk1 hne, hQ1.2⟩
  refine lv_aload_n hx hb dL_law_1806 rfl (lv_at hl 2 rfl) ?_
  refine lv_aload_n hx hb dL_law_1807 rfl (lv_at hl 0 rfl) ?_
  refine lv_iload_n hx hb dL_law_1808 rfl (lv_at hl 3 rfl) ?_
  refine lv_iconst (v := 1) hx hb dL_law_1809 (by decide) ?_
  refine lv_iadd hx hb dL_law_1810 ?_
  refine sb_at (P := fun z => W _ _ _ _ _ _ _ _ _ _ _ _ _ _ _ (F0 _ _ _ (.int z :: _))) (show (0 : Int32) + 1 = 1 by decide) ?_
  refine va_sld hx hb hX hbl hbA hS (vp_in_lit 1 6 (by decide)) dL_law_1811 ?_
  refine lv_aload_n hx hb dL_law_1812 rfl (lv_at hl 0 rfl) ?_
  refine lv_iload_n hx hb dL_law_1813 rfl (lv_at hl 3 rfl) ?_
  refine lv_iconst (v := 2) hx hb dL_law_1814 (by decide) ?_
  refine lv_iadd hx hb dL_law_1815 ?_
  refine sb_at (P := fun z => W _ _ _ _ _ _ _ _ _ _ _ _ _ _ _ (F0 _ _ _ (.int z :: _))) (show (0 : Int32) + 2 = 2 by decide) ?_
  refine va_sld hx hb hX hbl hbA hS (vp_in_lit 2 6 (by decide)) dL_law_1816 ?_
  refine lv_aload_n hx hb dL_law_1817 rfl (lv_at hl 0 rfl) ?_
  refine lv_iload_n hx hb dL_law_1818 rfl (lv_at hl 3 rfl) ?_
  refine lv_iconst (v := 3) hx hb dL_law_1819 (by decide) ?_
  refine lv_iadd hx hb dL_law_1820 ?_
  refine sb_at (P := fun z => W _ _ _ _ _ _ _ _ _ _ _ _ _ _ _ (F0 _ _ _ (.int z :: _))) (show (0 : Int32) + 3 = 3 by decide) ?_
  refine va_sld hx hb hX hbl hbA hS (vp_in_lit 3 6 (by decide)) dL_law_1821 ?_
  refine lv_aload_n hx hb dL_law_1822 rfl (lv_at hl 0 rfl) ?_
  refine lv_iload_n hx hb dL_law_1823 rfl (lv_at hl 3 rfl) ?_
  refine lv_iconst (v := 4) hx hb dL_law_1824 (by decide) ?_
  refine lv_iadd hx hb dL_law_1825 ?_
  refine sb_at (P := fun z => W _ _ _ _ _ _ _ _ _ _ _ _ _ _ _ (F0 _ _ _ (.int z :: _))) (show (0 : Int32) + 4 = 4 by decide) ?_
  refine va_sld hx hb hX hbl hbA hS (vp_in_lit 4 6 (by decide)) dL_law_1826 ?_
  refine xcVi E (hs := ⟨hD2, hA2⟩) hQ2 hml hl.1 0 (fX12_luck l g ad2 hD2 (M0 g ad2) (fun i hi => rfl) (xs (1 : Int32).toNatClampNeg) (xs (2 : Int32).toNatClampNeg) (xs (3 : Int32).toNatClampNeg) (xs (4 : Int32).toNatClampNeg)) mX12_luck q2132 (by decide) rfl rfl rfl ⟨(Nat.le_of_ble_eq_true rfl), (Nat.le_of_ble_eq_true rfl)⟩ ⟨(Nat.le_of_ble_eq_true rfl), (Nat.le_of_ble_eq_true rfl)⟩ (Nat.le_of_ble_eq_true rfl) rfl dL_law_1827 (fun r2 S2 H locs hp2 hQ2 hk2 => ?_)
  have hS := hQ2.2
  refine lv_icmp_eq (tgt := 2159) hx hb dL_law_1830 (by decide) (fun _ => ?_) (fun h => absurd (Eq.trans hp1.2 (Eq.symm hp2)) h)
  exact law_tail C0 hS hl

set_option maxHeartbeats 4000000 in
set_option maxRecDepth 100000 in
theorem law_case_55 {p : Program} {l : Launch} {e : Env} {s : State} {m : MethodId} {below : List Frame} {meth : Method} {c : Code} {b : Nat} {xs : Nat → Int32} (C0 : lw_At p s m meth c b 6 xs) {g : GG} {ad1 ad2 : Nat → Nat} (hK : KK g s) (hD1 : Dj ad1 122) (hD2 : Dj ad2 20) (hA1 : ∀ i, i < 122 → (fun q : Nat => s.heap.size ≤ q) (ad1 i)) (hA2 : ∀ i, i < 20 → (fun q : Nat => s.heap.size ≤ q) (ad2 i)) (hne : ∀ i j, i < 122 → j < 20 → ad1 i ≠ ad2 j) {H : Heap} {locs : List Loc} (hP1 : PW g ad1 122 (X0 g ad1) H) (hP2 : PW g ad2 20 (M0 g ad2) H) (hS : va_S (fun q : Nat => s.heap.size ≤ q) s.heap H locs) {ls : Array Slot} (hl : lv_has ls 4 [(0, .ref b), (1, .ref (ad1 0)), (2, .ref (ad2 0)), (3, .int 0)]) : W p l e room_1 s m #[Value.ref b] below meth c H locs 142 12631 (lw_Z below #[Value.ref b] s) (F0 m 1835 ls []) := by
  obtain ⟨hx, hb, hr, hml, hown, hts, hX, hbl, hlocks, hgv⟩ := id C0
  have hbA : ¬ (fun q : Nat => s.heap.size ≤ q) b := Nat.not_le.mpr hbl
  have E : Ev p s m #[Value.ref b] c cL_law "EbbWreckLaw" g := ⟨hx, hb, hown, fun w h => hts w (List.mem_filter.mp h).1, hK⟩
  have hQ1 : Hp g ad1 122 (X0 g ad1) (fun q : Nat => s.heap.size ≤ q) s.heap H locs := ⟨hP1, hS⟩
  refine lv_aload_n hx hb dL_law_1835 rfl (lv_at hl 1 rfl) ?_
  refine lv_aload_n hx hb dL_law_1836 rfl (lv_at hl 0 rfl) ?_
  refine lv_iload_n hx hb dL_law_1837 rfl (lv_at hl 3 rfl) ?_
  refine lv_iconst (v := 1) hx hb dL_law_1838 (by decide) ?_
  refine lv_iadd hx hb dL_law_1839 ?_
  refine sb_at (P := fun z => W _ _ _ _ _ _ _ _ _ _ _ _ _ _ _ (F0 _ _ _ (.int z :: _))) (show (0 : Int32) + 1 = 1 by decide) ?_
  refine va_sld hx hb hX hbl hbA hS (vp_in_lit 1 6 (by decide)) dL_law_1840 ?_
  refine lv_aload_n hx hb dL_law_1841 rfl (lv_at hl 0 rfl) ?_
  refine lv_iload_n hx hb dL_law_1842 rfl (lv_at hl 3 rfl) ?_
  refine lv_iconst (v := 2) hx hb dL_law_1843 (by decide) ?_
  refine lv_iadd hx hb dL_law_1844 ?_
  refine sb_at (P := fun z => W _ _ _ _ _ _ _ _ _ _ _ _ _ _ _ (F0 _ _ _ (.int z :: _))) (show (0 : Int32) + 2 = 2 by decide) ?_
  refine va_sld hx hb hX hbl hbA hS (vp_in_lit 2 6 (by decide)) dL_law_1845 ?_
  refine lv_aload_n hx hb dL_law_1846 rfl (lv_at hl 0 rfl) ?_
  refine lv_iload_n hx hb dL_law_1847 rfl (lv_at hl 3 rfl) ?_
  refine lv_iconst (v := 3) hx hb dL_law_1848 (by decide) ?_
  refine lv_iadd hx hb dL_law_1849 ?_
  refine sb_at (P := fun z => W _ _ _ _ _ _ _ _ _ _ _ _ _ _ _ (F0 _ _ _ (.int z :: _))) (show (0 : Int32) + 3 = 3 by decide) ?_
  refine va_sld hx hb hX hbl hbA hS (vp_in_lit 3 6 (by decide)) dL_law_1850 ?_
  refine xcVi E (hs := ⟨hD1, hA1⟩) hQ1 hml hl.1 0 (fX11_waits l g ad1 hD1 (X0 g ad1) (fun i hi => rfl) (xs (1 : Int32).toNatClampNeg) (xs (2 : Int32).toNatClampNeg) (xs (3 : Int32).toNatClampNeg)) mX11_waits q1413 (by decide) rfl rfl rfl ⟨(Nat.le_of_ble_eq_true rfl), (Nat.le_of_ble_eq_true rfl)⟩ ⟨(Nat.le_of_ble_eq_true rfl), (Nat.le_of_ble_eq_true rfl)⟩ (Nat.le_of_ble_eq_true rfl) rfl dL_law_1851 (fun r1 S1 H locs hp1 hQ1 hk1 => ?_)
  have hS := hQ1.2
  have hQ2 : Hp g ad2 20 (M0 g ad2) (fun q : Nat => s.heap.size ≤ q) s.heap H locs := ⟨pw_kept hP2 hk1 hne, hQ1.2⟩
  refine lv_aload_n hx hb dL_law_1854 rfl (lv_at hl 2 rfl) ?_
  refine lv_aload_n hx hb dL_law_1855 rfl (lv_at hl 0 rfl) ?_
  refine lv_iload_n hx hb dL_law_1856 rfl (lv_at hl 3 rfl) ?_
  refine lv_iconst (v := 1) hx hb dL_law_1857 (by decide) ?_
  refine lv_iadd hx hb dL_law_1858 ?_
  refine sb_at (P := fun z => W _ _ _ _ _ _ _ _ _ _ _ _ _ _ _ (F0 _ _ _ (.int z :: _))) (show (0 : Int32) + 1 = 1 by decide) ?_
  refine va_sld hx hb hX hbl hbA hS (vp_in_lit 1 6 (by decide)) dL_law_1859 ?_
  refine lv_aload_n hx hb dL_law_1860 rfl (lv_at hl 0 rfl) ?_
  refine lv_iload_n hx hb dL_law_1861 rfl (lv_at hl 3 rfl) ?_
  refine lv_iconst (v := 2) hx hb dL_law_1862 (by decide) ?_
  refine lv_iadd hx hb dL_law_1863 ?_
  refine sb_at (P := fun z => W _ _ _ _ _ _ _ _ _ _ _ _ _ _ _ (F0 _ _ _ (.int z :: _))) (show (0 : Int32) + 2 = 2 by decide) ?_
  refine va_sld hx hb hX hbl hbA hS (vp_in_lit 2 6 (by decide)) dL_law_1864 ?_
  refine lv_aload_n hx hb dL_law_1865 rfl (lv_at hl 0 rfl) ?_
  refine lv_iload_n hx hb dL_law_1866 rfl (lv_at hl 3 rfl) ?_
  refine lv_iconst (v := 3) hx hb dL_law_1867 (by decide) ?_
  refine lv_iadd hx hb dL_law_1868 ?_
  refine sb_at (P := fun z => W _ _ _ _ _ _ _ _ _ _ _ _ _ _ _ (F0 _ _ _ (.int z :: _))) (show (0 : Int32) + 3 = 3 by decide) ?_
  refine va_sld hx hb hX hbl hbA hS (vp_in_lit 3 6 (by decide)) dL_law_1869 ?_
  refine xcVi E (hs := ⟨hD2, hA2⟩) hQ2 hml hl.1 0 (fX12_waits l g ad2 hD2 (M0 g ad2) (fun i hi => rfl) (xs (1 : Int32).toNatClampNeg) (xs (2 : Int32).toNatClampNeg) (xs (3 : Int32).toNatClampNeg)) mX12_waits q2136 (by decide) rfl rfl rfl ⟨(Nat.le_of_ble_eq_true rfl), (Nat.le_of_ble_eq_true rfl)⟩ ⟨(Nat.le_of_ble_eq_true rfl), (Nat.le_of_ble_eq_true rfl)⟩ (Nat.le_of_ble_eq_true rfl) rfl dL_law_1870 (fun r2 S2 H locs hp2 hQ2 hk2 => ?_)
  have hS := hQ2.2
  refine lv_icmp_eq (tgt := 2159) hx hb dL_law_1873 (by decide) (fun _ => ?_) (fun h => absurd (Eq.trans hp1.2 (Eq.symm hp2)) h)
  exact law_tail C0 hS hl

set_option maxHeartbeats 4000000 in
set_option maxRecDepth 100000 in
theorem law_case_56 {p : Program} {l : Launch} {e : Env} {s : State} {m : MethodId} {below : List Frame} {meth : Method} {c : Code} {b : Nat} {xs : Nat → Int32} (C0 : lw_At p s m meth c b 6 xs) {g : GG} {ad1 ad2 : Nat → Nat} (hK : KK g s) (hD1 : Dj ad1 122) (hD2 : Dj ad2 20) (hA1 : ∀ i, i < 122 → (fun q : Nat => s.heap.size ≤ q) (ad1 i)) (hA2 : ∀ i, i < 20 → (fun q : Nat => s.heap.size ≤ q) (ad2 i)) (hne : ∀ i j, i < 122 → j < 20 → ad1 i ≠ ad2 j) {H : Heap} {locs : List Loc} (hP1 : PW g ad1 122 (X0 g ad1) H) (hP2 : PW g ad2 20 (M0 g ad2) H) (hS : va_S (fun q : Nat => s.heap.size ≤ q) s.heap H locs) {ls : Array Slot} (hl : lv_has ls 4 [(0, .ref b), (1, .ref (ad1 0)), (2, .ref (ad2 0)), (3, .int 0)]) : W p l e room_1 s m #[Value.ref b] below meth c H locs 142 12631 (lw_Z below #[Value.ref b] s) (F0 m 1878 ls []) := by
  obtain ⟨hx, hb, hr, hml, hown, hts, hX, hbl, hlocks, hgv⟩ := id C0
  have hbA : ¬ (fun q : Nat => s.heap.size ≤ q) b := Nat.not_le.mpr hbl
  have E : Ev p s m #[Value.ref b] c cL_law "EbbWreckLaw" g := ⟨hx, hb, hown, fun w h => hts w (List.mem_filter.mp h).1, hK⟩
  have hQ1 : Hp g ad1 122 (X0 g ad1) (fun q : Nat => s.heap.size ≤ q) s.heap H locs := ⟨hP1, hS⟩
  refine lv_aload_n hx hb dL_law_1878 rfl (lv_at hl 1 rfl) ?_
  refine lv_aload_n hx hb dL_law_1879 rfl (lv_at hl 0 rfl) ?_
  refine lv_iload_n hx hb dL_law_1880 rfl (lv_at hl 3 rfl) ?_
  refine lv_iconst (v := 1) hx hb dL_law_1881 (by decide) ?_
  refine lv_iadd hx hb dL_law_1882 ?_
  refine sb_at (P := fun z => W _ _ _ _ _ _ _ _ _ _ _ _ _ _ _ (F0 _ _ _ (.int z :: _))) (show (0 : Int32) + 1 = 1 by decide) ?_
  refine va_sld hx hb hX hbl hbA hS (vp_in_lit 1 6 (by decide)) dL_law_1883 ?_
  refine lv_aload_n hx hb dL_law_1884 rfl (lv_at hl 0 rfl) ?_
  refine lv_iload_n hx hb dL_law_1885 rfl (lv_at hl 3 rfl) ?_
  refine lv_iconst (v := 2) hx hb dL_law_1886 (by decide) ?_
  refine lv_iadd hx hb dL_law_1887 ?_
  refine sb_at (P := fun z => W _ _ _ _ _ _ _ _ _ _ _ _ _ _ _ (F0 _ _ _ (.int z :: _))) (show (0 : Int32) + 2 = 2 by decide) ?_
  refine va_sld hx hb hX hbl hbA hS (vp_in_lit 2 6 (by decide)) dL_law_1888 ?_
  refine xcVi E (hs := ⟨hD1, hA1⟩) hQ1 hml hl.1 0 (fX11_rate l g ad1 hD1 (X0 g ad1) (fun i hi => rfl) (xs (1 : Int32).toNatClampNeg) (xs (2 : Int32).toNatClampNeg)) mX11_rate q1388 (by decide) rfl rfl rfl ⟨(Nat.le_of_ble_eq_true rfl), (Nat.le_of_ble_eq_true rfl)⟩ ⟨(Nat.le_of_ble_eq_true rfl), (Nat.le_of_ble_eq_true rfl)⟩ (Nat.le_of_ble_eq_true rfl) rfl dL_law_1889 (fun r1 S1 H locs hp1 hQ1 hk1 => ?_)
  have hS := hQ1.2
  have hQ2 : Hp g ad2 20 (M0 g ad2) (fun q : Nat => s.heap.size ≤ q) s.heap H locs := ⟨pw_kept hP2 hk1 hne, hQ1.2⟩
  refine lv_aload_n hx hb dL_law_1892 rfl (lv_at hl 2 rfl) ?_
  refine lv_aload_n hx hb dL_law_1893 rfl (lv_at hl 0 rfl) ?_
  refine lv_iload_n hx hb dL_law_1894 rfl (lv_at hl 3 rfl) ?_
  refine lv_iconst (v := 1) hx hb dL_law_1895 (by decide) ?_
  refine lv_iadd hx hb dL_law_1896 ?_
  refine sb_at (P := fun z => W _ _ _ _ _ _ _ _ _ _ _ _ _ _ _ (F0 _ _ _ (.int z :: _))) (show (0 : Int32) + 1 = 1 by decide) ?_
  refine va_sld hx hb hX hbl hbA hS (vp_in_lit 1 6 (by decide)) dL_law_1897 ?_
  refine lv_aload_n hx hb dL_law_1898 rfl (lv_at hl 0 rfl) ?_
  refine lv_iload_n hx hb dL_law_1899 rfl (lv_at hl 3 rfl) ?_
  refine lv_iconst (v := 2) hx hb dL_law_1900 (by decide) ?_
  refine lv_iadd hx hb dL_law_1901 ?_
  refine sb_at (P := fun z => W _ _ _ _ _ _ _ _ _ _ _ _ _ _ _ (F0 _ _ _ (.int z :: _))) (show (0 : Int32) + 2 = 2 by decide) ?_
  refine va_sld hx hb hX hbl hbA hS (vp_in_lit 2 6 (by decide)) dL_law_1902 ?_
  refine xcVi E (hs := ⟨hD2, hA2⟩) hQ2 hml hl.1 0 (fX12_rate l g ad2 hD2 (M0 g ad2) (fun i hi => rfl) (xs (1 : Int32).toNatClampNeg) (xs (2 : Int32).toNatClampNeg)) mX12_rate q2140 (by decide) rfl rfl rfl ⟨(Nat.le_of_ble_eq_true rfl), (Nat.le_of_ble_eq_true rfl)⟩ ⟨(Nat.le_of_ble_eq_true rfl), (Nat.le_of_ble_eq_true rfl)⟩ (Nat.le_of_ble_eq_true rfl) rfl dL_law_1903 (fun r2 S2 H locs hp2 hQ2 hk2 => ?_)
  have hS := hQ2.2
  refine lv_icmp_eq (tgt := 2159) hx hb dL_law_1906 (by decide) (fun _ => ?_) (fun h => absurd (Eq.trans hp1.2 (Eq.symm hp2)) h)
  exact law_tail C0 hS hl

set_option maxHeartbeats 4000000 in
set_option maxRecDepth 100000 in
theorem law_case_57 {p : Program} {l : Launch} {e : Env} {s : State} {m : MethodId} {below : List Frame} {meth : Method} {c : Code} {b : Nat} {xs : Nat → Int32} (C0 : lw_At p s m meth c b 6 xs) {g : GG} {ad1 ad2 : Nat → Nat} (hK : KK g s) (hD1 : Dj ad1 122) (hD2 : Dj ad2 20) (hA1 : ∀ i, i < 122 → (fun q : Nat => s.heap.size ≤ q) (ad1 i)) (hA2 : ∀ i, i < 20 → (fun q : Nat => s.heap.size ≤ q) (ad2 i)) (hne : ∀ i j, i < 122 → j < 20 → ad1 i ≠ ad2 j) {H : Heap} {locs : List Loc} (hP1 : PW g ad1 122 (X0 g ad1) H) (hP2 : PW g ad2 20 (M0 g ad2) H) (hS : va_S (fun q : Nat => s.heap.size ≤ q) s.heap H locs) {ls : Array Slot} (hl : lv_has ls 4 [(0, .ref b), (1, .ref (ad1 0)), (2, .ref (ad2 0)), (3, .int 0)]) : W p l e room_1 s m #[Value.ref b] below meth c H locs 142 12631 (lw_Z below #[Value.ref b] s) (F0 m 1911 ls []) := by
  obtain ⟨hx, hb, hr, hml, hown, hts, hX, hbl, hlocks, hgv⟩ := id C0
  have hbA : ¬ (fun q : Nat => s.heap.size ≤ q) b := Nat.not_le.mpr hbl
  have E : Ev p s m #[Value.ref b] c cL_law "EbbWreckLaw" g := ⟨hx, hb, hown, fun w h => hts w (List.mem_filter.mp h).1, hK⟩
  have hQ1 : Hp g ad1 122 (X0 g ad1) (fun q : Nat => s.heap.size ≤ q) s.heap H locs := ⟨hP1, hS⟩
  refine lv_aload_n hx hb dL_law_1911 rfl (lv_at hl 1 rfl) ?_
  refine lv_aload_n hx hb dL_law_1912 rfl (lv_at hl 0 rfl) ?_
  refine lv_iload_n hx hb dL_law_1913 rfl (lv_at hl 3 rfl) ?_
  refine lv_iconst (v := 1) hx hb dL_law_1914 (by decide) ?_
  refine lv_iadd hx hb dL_law_1915 ?_
  refine sb_at (P := fun z => W _ _ _ _ _ _ _ _ _ _ _ _ _ _ _ (F0 _ _ _ (.int z :: _))) (show (0 : Int32) + 1 = 1 by decide) ?_
  refine va_sld hx hb hX hbl hbA hS (vp_in_lit 1 6 (by decide)) dL_law_1916 ?_
  refine xcVi E (hs := ⟨hD1, hA1⟩) hQ1 hml hl.1 0 (fX11_count l g ad1 hD1 (X0 g ad1) (xs (1 : Int32).toNatClampNeg) (fun i hi => rfl)) mX11_count q852 (by decide) rfl rfl rfl ⟨(Nat.le_of_ble_eq_true rfl), (Nat.le_of_ble_eq_true rfl)⟩ ⟨(Nat.le_of_ble_eq_true rfl), (Nat.le_of_ble_eq_true rfl)⟩ (Nat.le_of_ble_eq_true rfl) rfl dL_law_1917 (fun r1 S1 H locs hp1 hQ1 hk1 => ?_)
  have hS := hQ1.2
  have hQ2 : Hp g ad2 20 (M0 g ad2) (fun q : Nat => s.heap.size ≤ q) s.heap H locs := ⟨pw_kept hP2 hk1 hne, hQ1.2⟩
  refine lv_aload_n hx hb dL_law_1920 rfl (lv_at hl 2 rfl) ?_
  refine lv_aload_n hx hb dL_law_1921 rfl (lv_at hl 0 rfl) ?_
  refine lv_iload_n hx hb dL_law_1922 rfl (lv_at hl 3 rfl) ?_
  refine lv_iconst (v := 1) hx hb dL_law_1923 (by decide) ?_
  refine lv_iadd hx hb dL_law_1924 ?_
  refine sb_at (P := fun z => W _ _ _ _ _ _ _ _ _ _ _ _ _ _ _ (F0 _ _ _ (.int z :: _))) (show (0 : Int32) + 1 = 1 by decide) ?_
  refine va_sld hx hb hX hbl hbA hS (vp_in_lit 1 6 (by decide)) dL_law_1925 ?_
  refine xcVi E (hs := ⟨hD2, hA2⟩) hQ2 hml hl.1 0 (fX12_count l g ad2 hD2 (M0 g ad2) (xs (1 : Int32).toNatClampNeg) (fun i hi => rfl)) mX12_count q2145 (by decide) rfl rfl rfl ⟨(Nat.le_of_ble_eq_true rfl), (Nat.le_of_ble_eq_true rfl)⟩ ⟨(Nat.le_of_ble_eq_true rfl), (Nat.le_of_ble_eq_true rfl)⟩ (Nat.le_of_ble_eq_true rfl) rfl dL_law_1926 (fun r2 S2 H locs hp2 hQ2 hk2 => ?_)
  have hS := hQ2.2
  refine lv_icmp_eq (tgt := 2159) hx hb dL_law_1929 (by decide) (fun _ => ?_) (fun h => absurd (Eq.trans hp1 (Eq.symm hp2)) h)
  exact law_tail C0 hS hl

set_option maxHeartbeats 4000000 in
set_option maxRecDepth 100000 in
theorem law_case_58 {p : Program} {l : Launch} {e : Env} {s : State} {m : MethodId} {below : List Frame} {meth : Method} {c : Code} {b : Nat} {xs : Nat → Int32} (C0 : lw_At p s m meth c b 6 xs) {g : GG} {ad1 ad2 : Nat → Nat} (hK : KK g s) (hD1 : Dj ad1 122) (hD2 : Dj ad2 20) (hA1 : ∀ i, i < 122 → (fun q : Nat => s.heap.size ≤ q) (ad1 i)) (hA2 : ∀ i, i < 20 → (fun q : Nat => s.heap.size ≤ q) (ad2 i)) (hne : ∀ i j, i < 122 → j < 20 → ad1 i ≠ ad2 j) {H : Heap} {locs : List Loc} (hP1 : PW g ad1 122 (X0 g ad1) H) (hP2 : PW g ad2 20 (M0 g ad2) H) (hS : va_S (fun q : Nat => s.heap.size ≤ q) s.heap H locs) {ls : Array Slot} (hl : lv_has ls 4 [(0, .ref b), (1, .ref (ad1 0)), (2, .ref (ad2 0)), (3, .int 0)]) : W p l e room_1 s m #[Value.ref b] below meth c H locs 142 12631 (lw_Z below #[Value.ref b] s) (F0 m 1934 ls []) := by
  obtain ⟨hx, hb, hr, hml, hown, hts, hX, hbl, hlocks, hgv⟩ := id C0
  have hbA : ¬ (fun q : Nat => s.heap.size ≤ q) b := Nat.not_le.mpr hbl
  have E : Ev p s m #[Value.ref b] c cL_law "EbbWreckLaw" g := ⟨hx, hb, hown, fun w h => hts w (List.mem_filter.mp h).1, hK⟩
  have hQ1 : Hp g ad1 122 (X0 g ad1) (fun q : Nat => s.heap.size ≤ q) s.heap H locs := ⟨hP1, hS⟩
  refine lv_aload_n hx hb dL_law_1934 rfl (lv_at hl 1 rfl) ?_
  refine lv_aload_n hx hb dL_law_1935 rfl (lv_at hl 0 rfl) ?_
  refine lv_iload_n hx hb dL_law_1936 rfl (lv_at hl 3 rfl) ?_
  refine lv_iconst (v := 1) hx hb dL_law_1937 (by decide) ?_
  refine lv_iadd hx hb dL_law_1938 ?_
  refine sb_at (P := fun z => W _ _ _ _ _ _ _ _ _ _ _ _ _ _ _ (F0 _ _ _ (.int z :: _))) (show (0 : Int32) + 1 = 1 by decide) ?_
  refine va_sld hx hb hX hbl hbA hS (vp_in_lit 1 6 (by decide)) dL_law_1939 ?_
  refine xcVi E (hs := ⟨hD1, hA1⟩) hQ1 hml hl.1 0 (fX11_image l g ad1 hD1 (X0 g ad1) (fun i hi => rfl) (xs (1 : Int32).toNatClampNeg)) mX11_image q1421 (by decide) rfl rfl rfl ⟨(Nat.le_of_ble_eq_true rfl), (Nat.le_of_ble_eq_true rfl)⟩ ⟨(Nat.le_of_ble_eq_true rfl), (Nat.le_of_ble_eq_true rfl)⟩ (Nat.le_of_ble_eq_true rfl) rfl dL_law_1940 (fun r1 S1 H locs hp1 hQ1 hk1 => ?_)
  have hS := hQ1.2
  have hQ2 : Hp g ad2 20 (M0 g ad2) (fun q : Nat => s.heap.size ≤ q) s.heap H locs := ⟨pw_kept hP2 hk1 hne, hQ1.2⟩
  refine lv_aload_n hx hb dL_law_1943 rfl (lv_at hl 2 rfl) ?_
  refine lv_aload_n hx hb dL_law_1944 rfl (lv_at hl 0 rfl) ?_
  refine lv_iload_n hx hb dL_law_1945 rfl (lv_at hl 3 rfl) ?_
  refine lv_iconst (v := 1) hx hb dL_law_1946 (by decide) ?_
  refine lv_iadd hx hb dL_law_1947 ?_
  refine sb_at (P := fun z => W _ _ _ _ _ _ _ _ _ _ _ _ _ _ _ (F0 _ _ _ (.int z :: _))) (show (0 : Int32) + 1 = 1 by decide) ?_
  refine va_sld hx hb hX hbl hbA hS (vp_in_lit 1 6 (by decide)) dL_law_1948 ?_
  refine xcVi E (hs := ⟨hD2, hA2⟩) hQ2 hml hl.1 0 (fX12_image l g ad2 hD2 (M0 g ad2) (fun i hi => rfl) (xs (1 : Int32).toNatClampNeg)) mX12_image q2150 (by decide) rfl rfl rfl ⟨(Nat.le_of_ble_eq_true rfl), (Nat.le_of_ble_eq_true rfl)⟩ ⟨(Nat.le_of_ble_eq_true rfl), (Nat.le_of_ble_eq_true rfl)⟩ (Nat.le_of_ble_eq_true rfl) rfl dL_law_1949 (fun r2 S2 H locs hp2 hQ2 hk2 => ?_)
  have hS := hQ2.2
  refine lv_icmp_eq (tgt := 2159) hx hb dL_law_1952 (by decide) (fun _ => ?_) (fun h => absurd (Eq.trans hp1 (Eq.symm hp2)) h)
  exact law_tail C0 hS hl

set_option maxHeartbeats 4000000 in
set_option maxRecDepth 100000 in
theorem law_case_59 {p : Program} {l : Launch} {e : Env} {s : State} {m : MethodId} {below : List Frame} {meth : Method} {c : Code} {b : Nat} {xs : Nat → Int32} (C0 : lw_At p s m meth c b 6 xs) {g : GG} {ad1 ad2 : Nat → Nat} (hK : KK g s) (hD1 : Dj ad1 122) (hD2 : Dj ad2 20) (hA1 : ∀ i, i < 122 → (fun q : Nat => s.heap.size ≤ q) (ad1 i)) (hA2 : ∀ i, i < 20 → (fun q : Nat => s.heap.size ≤ q) (ad2 i)) (hne : ∀ i j, i < 122 → j < 20 → ad1 i ≠ ad2 j) {H : Heap} {locs : List Loc} (hP1 : PW g ad1 122 (X0 g ad1) H) (hP2 : PW g ad2 20 (M0 g ad2) H) (hS : va_S (fun q : Nat => s.heap.size ≤ q) s.heap H locs) {ls : Array Slot} (hl : lv_has ls 4 [(0, .ref b), (1, .ref (ad1 0)), (2, .ref (ad2 0)), (3, .int 0)]) : W p l e room_1 s m #[Value.ref b] below meth c H locs 142 12631 (lw_Z below #[Value.ref b] s) (F0 m 1957 ls []) := by
  obtain ⟨hx, hb, hr, hml, hown, hts, hX, hbl, hlocks, hgv⟩ := id C0
  have hbA : ¬ (fun q : Nat => s.heap.size ≤ q) b := Nat.not_le.mpr hbl
  have E : Ev p s m #[Value.ref b] c cL_law "EbbWreckLaw" g := ⟨hx, hb, hown, fun w h => hts w (List.mem_filter.mp h).1, hK⟩
  have hQ1 : Hp g ad1 122 (X0 g ad1) (fun q : Nat => s.heap.size ≤ q) s.heap H locs := ⟨hP1, hS⟩
  refine lv_aload_n hx hb dL_law_1957 rfl (lv_at hl 1 rfl) ?_
  refine lv_aload_n hx hb dL_law_1958 rfl (lv_at hl 0 rfl) ?_
  refine lv_iload_n hx hb dL_law_1959 rfl (lv_at hl 3 rfl) ?_
  refine lv_iconst (v := 1) hx hb dL_law_1960 (by decide) ?_
  refine lv_iadd hx hb dL_law_1961 ?_
  refine sb_at (P := fun z => W _ _ _ _ _ _ _ _ _ _ _ _ _ _ _ (F0 _ _ _ (.int z :: _))) (show (0 : Int32) + 1 = 1 by decide) ?_
  refine va_sld hx hb hX hbl hbA hS (vp_in_lit 1 6 (by decide)) dL_law_1962 ?_
  refine xcVi E (hs := ⟨hD1, hA1⟩) hQ1 hml hl.1 0 (fX11_back l g ad1 hD1 (X0 g ad1) (fun i hi => rfl) (xs (1 : Int32).toNatClampNeg)) mX11_back q1425 (by decide) rfl rfl rfl ⟨(Nat.le_of_ble_eq_true rfl), (Nat.le_of_ble_eq_true rfl)⟩ ⟨(Nat.le_of_ble_eq_true rfl), (Nat.le_of_ble_eq_true rfl)⟩ (Nat.le_of_ble_eq_true rfl) rfl dL_law_1963 (fun r1 S1 H locs hp1 hQ1 hk1 => ?_)
  have hS := hQ1.2
  have hQ2 : Hp g ad2 20 (M0 g ad2) (fun q : Nat => s.heap.size ≤ q) s.heap H locs := ⟨pw_kept hP2 hk1 hne, hQ1.2⟩
  refine lv_aload_n hx hb dL_law_1966 rfl (lv_at hl 2 rfl) ?_
  refine lv_aload_n hx hb dL_law_1967 rfl (lv_at hl 0 rfl) ?_
  refine lv_iload_n hx hb dL_law_1968 rfl (lv_at hl 3 rfl) ?_
  refine lv_iconst (v := 1) hx hb dL_law_1969 (by decide) ?_
  refine lv_iadd hx hb dL_law_1970 ?_
  refine sb_at (P := fun z => W _ _ _ _ _ _ _ _ _ _ _ _ _ _ _ (F0 _ _ _ (.int z :: _))) (show (0 : Int32) + 1 = 1 by decide) ?_
  refine va_sld hx hb hX hbl hbA hS (vp_in_lit 1 6 (by decide)) dL_law_1971 ?_
  refine xcVi E (hs := ⟨hD2, hA2⟩) hQ2 hml hl.1 0 (fX12_back l g ad2 hD2 (M0 g ad2) (fun i hi => rfl) (xs (1 : Int32).toNatClampNeg)) mX12_back q2154 (by decide) rfl rfl rfl ⟨(Nat.le_of_ble_eq_true rfl), (Nat.le_of_ble_eq_true rfl)⟩ ⟨(Nat.le_of_ble_eq_true rfl), (Nat.le_of_ble_eq_true rfl)⟩ (Nat.le_of_ble_eq_true rfl) rfl dL_law_1972 (fun r2 S2 H locs hp2 hQ2 hk2 => ?_)
  have hS := hQ2.2
  refine lv_icmp_eq (tgt := 2159) hx hb dL_law_1975 (by decide) (fun _ => ?_) (fun h => absurd (Eq.trans hp1 (Eq.symm hp2)) h)
  exact law_tail C0 hS hl

set_option maxHeartbeats 4000000 in
set_option maxRecDepth 100000 in
theorem law_case_60 {p : Program} {l : Launch} {e : Env} {s : State} {m : MethodId} {below : List Frame} {meth : Method} {c : Code} {b : Nat} {xs : Nat → Int32} (C0 : lw_At p s m meth c b 6 xs) {g : GG} {ad1 ad2 : Nat → Nat} (hK : KK g s) (hD1 : Dj ad1 122) (hD2 : Dj ad2 20) (hA1 : ∀ i, i < 122 → (fun q : Nat => s.heap.size ≤ q) (ad1 i)) (hA2 : ∀ i, i < 20 → (fun q : Nat => s.heap.size ≤ q) (ad2 i)) (hne : ∀ i j, i < 122 → j < 20 → ad1 i ≠ ad2 j) {H : Heap} {locs : List Loc} (hP1 : PW g ad1 122 (X0 g ad1) H) (hP2 : PW g ad2 20 (M0 g ad2) H) (hS : va_S (fun q : Nat => s.heap.size ≤ q) s.heap H locs) {ls : Array Slot} (hl : lv_has ls 4 [(0, .ref b), (1, .ref (ad1 0)), (2, .ref (ad2 0)), (3, .int 0)]) : W p l e room_1 s m #[Value.ref b] below meth c H locs 142 12631 (lw_Z below #[Value.ref b] s) (F0 m 1980 ls []) := by
  obtain ⟨hx, hb, hr, hml, hown, hts, hX, hbl, hlocks, hgv⟩ := id C0
  have hbA : ¬ (fun q : Nat => s.heap.size ≤ q) b := Nat.not_le.mpr hbl
  have E : Ev p s m #[Value.ref b] c cL_law "EbbWreckLaw" g := ⟨hx, hb, hown, fun w h => hts w (List.mem_filter.mp h).1, hK⟩
  have hQ1 : Hp g ad1 122 (X0 g ad1) (fun q : Nat => s.heap.size ≤ q) s.heap H locs := ⟨hP1, hS⟩
  refine lv_aload_n hx hb dL_law_1980 rfl (lv_at hl 1 rfl) ?_
  refine lv_aload_n hx hb dL_law_1981 rfl (lv_at hl 0 rfl) ?_
  refine lv_iload_n hx hb dL_law_1982 rfl (lv_at hl 3 rfl) ?_
  refine lv_iconst (v := 1) hx hb dL_law_1983 (by decide) ?_
  refine lv_iadd hx hb dL_law_1984 ?_
  refine sb_at (P := fun z => W _ _ _ _ _ _ _ _ _ _ _ _ _ _ _ (F0 _ _ _ (.int z :: _))) (show (0 : Int32) + 1 = 1 by decide) ?_
  refine va_sld hx hb hX hbl hbA hS (vp_in_lit 1 6 (by decide)) dL_law_1985 ?_
  refine lv_aload_n hx hb dL_law_1986 rfl (lv_at hl 0 rfl) ?_
  refine lv_iload_n hx hb dL_law_1987 rfl (lv_at hl 3 rfl) ?_
  refine lv_iconst (v := 2) hx hb dL_law_1988 (by decide) ?_
  refine lv_iadd hx hb dL_law_1989 ?_
  refine sb_at (P := fun z => W _ _ _ _ _ _ _ _ _ _ _ _ _ _ _ (F0 _ _ _ (.int z :: _))) (show (0 : Int32) + 2 = 2 by decide) ?_
  refine va_sld hx hb hX hbl hbA hS (vp_in_lit 2 6 (by decide)) dL_law_1990 ?_
  refine lv_aload_n hx hb dL_law_1991 rfl (lv_at hl 0 rfl) ?_
  refine lv_iload_n hx hb dL_law_1992 rfl (lv_at hl 3 rfl) ?_
  refine lv_iconst (v := 3) hx hb dL_law_1993 (by decide) ?_
  refine lv_iadd hx hb dL_law_1994 ?_
  refine sb_at (P := fun z => W _ _ _ _ _ _ _ _ _ _ _ _ _ _ _ (F0 _ _ _ (.int z :: _))) (show (0 : Int32) + 3 = 3 by decide) ?_
  refine va_sld hx hb hX hbl hbA hS (vp_in_lit 3 6 (by decide)) dL_law_1995 ?_
  refine xcVi E (hs := ⟨hD1, hA1⟩) hQ1 hml hl.1 0 (fX11_row l g ad1 hD1 (X0 g ad1) (fun i hi => rfl) (xs (1 : Int32).toNatClampNeg) (xs (2 : Int32).toNatClampNeg) (xs (3 : Int32).toNatClampNeg)) mX11_row q1429 (by decide) rfl rfl rfl ⟨(Nat.le_of_ble_eq_true rfl), (Nat.le_of_ble_eq_true rfl)⟩ ⟨(Nat.le_of_ble_eq_true rfl), (Nat.le_of_ble_eq_true rfl)⟩ (Nat.le_of_ble_eq_true rfl) rfl dL_law_1996 (fun r1 S1 H locs hp1 hQ1 hk1 => ?_)
  have hS := hQ1.2
  have hQ2 : Hp g ad2 20 (M0 g ad2) (fun q : Nat => s.heap.size ≤ q) s.heap H locs := ⟨pw_kept hP2 hk1 hne, hQ1.2⟩
  refine lv_aload_n hx hb dL_law_1999 rfl (lv_at hl 2 rfl) ?_
  refine lv_aload_n hx hb dL_law_2000 rfl (lv_at hl 0 rfl) ?_
  refine lv_iload_n hx hb dL_law_2001 rfl (lv_at hl 3 rfl) ?_
  refine lv_iconst (v := 1) hx hb dL_law_2002 (by decide) ?_
  refine lv_iadd hx hb dL_law_2003 ?_
  refine sb_at (P := fun z => W _ _ _ _ _ _ _ _ _ _ _ _ _ _ _ (F0 _ _ _ (.int z :: _))) (show (0 : Int32) + 1 = 1 by decide) ?_
  refine va_sld hx hb hX hbl hbA hS (vp_in_lit 1 6 (by decide)) dL_law_2004 ?_
  refine lv_aload_n hx hb dL_law_2005 rfl (lv_at hl 0 rfl) ?_
  refine lv_iload_n hx hb dL_law_2006 rfl (lv_at hl 3 rfl) ?_
  refine lv_iconst (v := 2) hx hb dL_law_2007 (by decide) ?_
  refine lv_iadd hx hb dL_law_2008 ?_
  refine sb_at (P := fun z => W _ _ _ _ _ _ _ _ _ _ _ _ _ _ _ (F0 _ _ _ (.int z :: _))) (show (0 : Int32) + 2 = 2 by decide) ?_
  refine va_sld hx hb hX hbl hbA hS (vp_in_lit 2 6 (by decide)) dL_law_2009 ?_
  refine lv_aload_n hx hb dL_law_2010 rfl (lv_at hl 0 rfl) ?_
  refine lv_iload_n hx hb dL_law_2011 rfl (lv_at hl 3 rfl) ?_
  refine lv_iconst (v := 3) hx hb dL_law_2012 (by decide) ?_
  refine lv_iadd hx hb dL_law_2013 ?_
  refine sb_at (P := fun z => W _ _ _ _ _ _ _ _ _ _ _ _ _ _ _ (F0 _ _ _ (.int z :: _))) (show (0 : Int32) + 3 = 3 by decide) ?_
  refine va_sld hx hb hX hbl hbA hS (vp_in_lit 3 6 (by decide)) dL_law_2014 ?_
  refine xcVi E (hs := ⟨hD2, hA2⟩) hQ2 hml hl.1 0 (fX12_row l g ad2 hD2 (M0 g ad2) (fun i hi => rfl) (xs (1 : Int32).toNatClampNeg) (xs (2 : Int32).toNatClampNeg) (xs (3 : Int32).toNatClampNeg)) mX12_row q1583 (by decide) rfl rfl rfl ⟨(Nat.le_of_ble_eq_true rfl), (Nat.le_of_ble_eq_true rfl)⟩ ⟨(Nat.le_of_ble_eq_true rfl), (Nat.le_of_ble_eq_true rfl)⟩ (Nat.le_of_ble_eq_true rfl) rfl dL_law_2015 (fun r2 S2 H locs hp2 hQ2 hk2 => ?_)
  have hS := hQ2.2
  refine lv_icmp_eq (tgt := 2159) hx hb dL_law_2018 (by decide) (fun _ => ?_) (fun h => absurd (Eq.trans hp1 (Eq.symm hp2)) h)
  exact law_tail C0 hS hl

set_option maxHeartbeats 4000000 in
set_option maxRecDepth 100000 in
theorem law_case_61 {p : Program} {l : Launch} {e : Env} {s : State} {m : MethodId} {below : List Frame} {meth : Method} {c : Code} {b : Nat} {xs : Nat → Int32} (C0 : lw_At p s m meth c b 6 xs) {g : GG} {ad1 ad2 : Nat → Nat} (hK : KK g s) (hD1 : Dj ad1 122) (hD2 : Dj ad2 20) (hA1 : ∀ i, i < 122 → (fun q : Nat => s.heap.size ≤ q) (ad1 i)) (hA2 : ∀ i, i < 20 → (fun q : Nat => s.heap.size ≤ q) (ad2 i)) (hne : ∀ i j, i < 122 → j < 20 → ad1 i ≠ ad2 j) {H : Heap} {locs : List Loc} (hP1 : PW g ad1 122 (X0 g ad1) H) (hP2 : PW g ad2 20 (M0 g ad2) H) (hS : va_S (fun q : Nat => s.heap.size ≤ q) s.heap H locs) {ls : Array Slot} (hl : lv_has ls 4 [(0, .ref b), (1, .ref (ad1 0)), (2, .ref (ad2 0)), (3, .int 0)]) : W p l e room_1 s m #[Value.ref b] below meth c H locs 142 12631 (lw_Z below #[Value.ref b] s) (F0 m 2023 ls []) := by
  obtain ⟨hx, hb, hr, hml, hown, hts, hX, hbl, hlocks, hgv⟩ := id C0
  have hbA : ¬ (fun q : Nat => s.heap.size ≤ q) b := Nat.not_le.mpr hbl
  have E : Ev p s m #[Value.ref b] c cL_law "EbbWreckLaw" g := ⟨hx, hb, hown, fun w h => hts w (List.mem_filter.mp h).1, hK⟩
  have hQ1 : Hp g ad1 122 (X0 g ad1) (fun q : Nat => s.heap.size ≤ q) s.heap H locs := ⟨hP1, hS⟩
  refine lv_aload_n hx hb dL_law_2023 rfl (lv_at hl 1 rfl) ?_
  refine lv_aload_n hx hb dL_law_2024 rfl (lv_at hl 0 rfl) ?_
  refine lv_iload_n hx hb dL_law_2025 rfl (lv_at hl 3 rfl) ?_
  refine lv_iconst (v := 1) hx hb dL_law_2026 (by decide) ?_
  refine lv_iadd hx hb dL_law_2027 ?_
  refine sb_at (P := fun z => W _ _ _ _ _ _ _ _ _ _ _ _ _ _ _ (F0 _ _ _ (.int z :: _))) (show (0 : Int32) + 1 = 1 by decide) ?_
  refine va_sld hx hb hX hbl hbA hS (vp_in_lit 1 6 (by decide)) dL_law_2028 ?_
  refine lv_aload_n hx hb dL_law_2029 rfl (lv_at hl 0 rfl) ?_
  refine lv_iload_n hx hb dL_law_2030 rfl (lv_at hl 3 rfl) ?_
  refine lv_iconst (v := 2) hx hb dL_law_2031 (by decide) ?_
  refine lv_iadd hx hb dL_law_2032 ?_
  refine sb_at (P := fun z => W _ _ _ _ _ _ _ _ _ _ _ _ _ _ _ (F0 _ _ _ (.int z :: _))) (show (0 : Int32) + 2 = 2 by decide) ?_
  refine va_sld hx hb hX hbl hbA hS (vp_in_lit 2 6 (by decide)) dL_law_2033 ?_
  refine lv_aload_n hx hb dL_law_2034 rfl (lv_at hl 0 rfl) ?_
  refine lv_iload_n hx hb dL_law_2035 rfl (lv_at hl 3 rfl) ?_
  refine lv_iconst (v := 3) hx hb dL_law_2036 (by decide) ?_
  refine lv_iadd hx hb dL_law_2037 ?_
  refine sb_at (P := fun z => W _ _ _ _ _ _ _ _ _ _ _ _ _ _ _ (F0 _ _ _ (.int z :: _))) (show (0 : Int32) + 3 = 3 by decide) ?_
  refine va_sld hx hb hX hbl hbA hS (vp_in_lit 3 6 (by decide)) dL_law_2038 ?_
  refine lv_i2l hx hb dL_law_2039 rfl ?_
  refine lv_topl (fun z1 _ => ?_)
  refine lv_bipush (v := 32) hx hb dL_law_2040 (by decide) ?_
  refine lv_lshl hx hb dL_law_2042 rfl ?_
  refine lv_topl (fun z2 _ => ?_)
  refine lv_aload_n hx hb dL_law_2043 rfl (lv_at hl 0 rfl) ?_
  refine lv_iload_n hx hb dL_law_2044 rfl (lv_at hl 3 rfl) ?_
  refine lv_iconst (v := 4) hx hb dL_law_2045 (by decide) ?_
  refine lv_iadd hx hb dL_law_2046 ?_
  refine sb_at (P := fun z => W _ _ _ _ _ _ _ _ _ _ _ _ _ _ _ (F0 _ _ _ (.int z :: _))) (show (0 : Int32) + 4 = 4 by decide) ?_
  refine va_sld hx hb hX hbl hbA hS (vp_in_lit 4 6 (by decide)) dL_law_2047 ?_
  refine lv_i2l hx hb dL_law_2048 rfl ?_
  refine lv_topl (fun z3 _ => ?_)
  refine lv_ldc2 (v := 4294967295) hx hb E.2.2.1 (E.2.2.2.1 _ q2158) dL_law_2049 ?_
  refine lv_land hx hb dL_law_2052 ?_
  refine lv_topl (fun z4 _ => ?_)
  refine lv_lor hx hb dL_law_2053 ?_
  refine lv_topl (fun z5 _ => ?_)
  refine xcVi E (hs := ⟨hD1, hA1⟩) hQ1 hml hl.1 0 (fX11_write l g ad1 hD1 (X0 g ad1) (fun i hi => rfl) (xs (1 : Int32).toNatClampNeg) (xs (2 : Int32).toNatClampNeg) z5) mX11_write q1441 (by decide) rfl rfl rfl ⟨(Nat.le_of_ble_eq_true rfl), (Nat.le_of_ble_eq_true rfl)⟩ ⟨(Nat.le_of_ble_eq_true rfl), (Nat.le_of_ble_eq_true rfl)⟩ (Nat.le_of_ble_eq_true rfl) rfl dL_law_2054 (fun r1 S1 H locs hp1 hQ1 hk1 => ?_)
  have hS := hQ1.2
  have hQ2 : Hp g ad2 20 (M0 g ad2) (fun q : Nat => s.heap.size ≤ q) s.heap H locs := ⟨pw_kept hP2 hk1 hne, hQ1.2⟩
  refine lv_aload_n hx hb dL_law_2057 rfl (lv_at hl 2 rfl) ?_
  refine lv_aload_n hx hb dL_law_2058 rfl (lv_at hl 0 rfl) ?_
  refine lv_iload_n hx hb dL_law_2059 rfl (lv_at hl 3 rfl) ?_
  refine lv_iconst (v := 1) hx hb dL_law_2060 (by decide) ?_
  refine lv_iadd hx hb dL_law_2061 ?_
  refine sb_at (P := fun z => W _ _ _ _ _ _ _ _ _ _ _ _ _ _ _ (F0 _ _ _ (.int z :: _))) (show (0 : Int32) + 1 = 1 by decide) ?_
  refine va_sld hx hb hX hbl hbA hS (vp_in_lit 1 6 (by decide)) dL_law_2062 ?_
  refine lv_aload_n hx hb dL_law_2063 rfl (lv_at hl 0 rfl) ?_
  refine lv_iload_n hx hb dL_law_2064 rfl (lv_at hl 3 rfl) ?_
  refine lv_iconst (v := 2) hx hb dL_law_2065 (by decide) ?_
  refine lv_iadd hx hb dL_law_2066 ?_
  refine sb_at (P := fun z => W _ _ _ _ _ _ _ _ _ _ _ _ _ _ _ (F0 _ _ _ (.int z :: _))) (show (0 : Int32) + 2 = 2 by decide) ?_
  refine va_sld hx hb hX hbl hbA hS (vp_in_lit 2 6 (by decide)) dL_law_2067 ?_
  refine lv_aload_n hx hb dL_law_2068 rfl (lv_at hl 0 rfl) ?_
  refine lv_iload_n hx hb dL_law_2069 rfl (lv_at hl 3 rfl) ?_
  refine lv_iconst (v := 3) hx hb dL_law_2070 (by decide) ?_
  refine lv_iadd hx hb dL_law_2071 ?_
  refine sb_at (P := fun z => W _ _ _ _ _ _ _ _ _ _ _ _ _ _ _ (F0 _ _ _ (.int z :: _))) (show (0 : Int32) + 3 = 3 by decide) ?_
  refine va_sld hx hb hX hbl hbA hS (vp_in_lit 3 6 (by decide)) dL_law_2072 ?_
  refine lv_i2l hx hb dL_law_2073 rfl ?_
  refine lv_topl (fun z6 _ => ?_)
  refine lv_bipush (v := 32) hx hb dL_law_2074 (by decide) ?_
  refine lv_lshl hx hb dL_law_2076 rfl ?_
  refine lv_topl (fun z7 _ => ?_)
  refine lv_aload_n hx hb dL_law_2077 rfl (lv_at hl 0 rfl) ?_
  refine lv_iload_n hx hb dL_law_2078 rfl (lv_at hl 3 rfl) ?_
  refine lv_iconst (v := 4) hx hb dL_law_2079 (by decide) ?_
  refine lv_iadd hx hb dL_law_2080 ?_
  refine sb_at (P := fun z => W _ _ _ _ _ _ _ _ _ _ _ _ _ _ _ (F0 _ _ _ (.int z :: _))) (show (0 : Int32) + 4 = 4 by decide) ?_
  refine va_sld hx hb hX hbl hbA hS (vp_in_lit 4 6 (by decide)) dL_law_2081 ?_
  refine lv_i2l hx hb dL_law_2082 rfl ?_
  refine lv_topl (fun z8 _ => ?_)
  refine lv_ldc2 (v := 4294967295) hx hb E.2.2.1 (E.2.2.2.1 _ q2158) dL_law_2083 ?_
  refine lv_land hx hb dL_law_2086 ?_
  refine lv_topl (fun z9 _ => ?_)
  refine lv_lor hx hb dL_law_2087 ?_
  refine lv_topl (fun z10 _ => ?_)
  refine xcVi E (hs := ⟨hD2, hA2⟩) hQ2 hml hl.1 0 (fX12_write l g ad2 hD2 (M0 g ad2) (fun i hi => rfl) (xs (1 : Int32).toNatClampNeg) (xs (2 : Int32).toNatClampNeg) z10) mX12_write q1594 (by decide) rfl rfl rfl ⟨(Nat.le_of_ble_eq_true rfl), (Nat.le_of_ble_eq_true rfl)⟩ ⟨(Nat.le_of_ble_eq_true rfl), (Nat.le_of_ble_eq_true rfl)⟩ (Nat.le_of_ble_eq_true rfl) rfl dL_law_2088 (fun r2 S2 H locs hp2 hQ2 hk2 => ?_)
  have hS := hQ2.2
  refine lv_icmp_eq (tgt := 2159) hx hb dL_law_2091 (by decide) (fun _ => ?_) (fun h => absurd (Eq.trans hp1 (Eq.symm hp2)) h)
  exact law_tail C0 hS hl

set_option maxHeartbeats 4000000 in
set_option maxRecDepth 100000 in
theorem law_case_62 {p : Program} {l : Launch} {e : Env} {s : State} {m : MethodId} {below : List Frame} {meth : Method} {c : Code} {b : Nat} {xs : Nat → Int32} (C0 : lw_At p s m meth c b 6 xs) {g : GG} {ad1 ad2 : Nat → Nat} (hK : KK g s) (hD1 : Dj ad1 122) (hD2 : Dj ad2 20) (hA1 : ∀ i, i < 122 → (fun q : Nat => s.heap.size ≤ q) (ad1 i)) (hA2 : ∀ i, i < 20 → (fun q : Nat => s.heap.size ≤ q) (ad2 i)) (hne : ∀ i j, i < 122 → j < 20 → ad1 i ≠ ad2 j) {H : Heap} {locs : List Loc} (hP1 : PW g ad1 122 (X0 g ad1) H) (hP2 : PW g ad2 20 (M0 g ad2) H) (hS : va_S (fun q : Nat => s.heap.size ≤ q) s.heap H locs) {ls : Array Slot} (hl : lv_has ls 4 [(0, .ref b), (1, .ref (ad1 0)), (2, .ref (ad2 0)), (3, .int 0)]) : W p l e room_1 s m #[Value.ref b] below meth c H locs 142 12631 (lw_Z below #[Value.ref b] s) (F0 m 2096 ls []) := by
  obtain ⟨hx, hb, hr, hml, hown, hts, hX, hbl, hlocks, hgv⟩ := id C0
  have hbA : ¬ (fun q : Nat => s.heap.size ≤ q) b := Nat.not_le.mpr hbl
  have E : Ev p s m #[Value.ref b] c cL_law "EbbWreckLaw" g := ⟨hx, hb, hown, fun w h => hts w (List.mem_filter.mp h).1, hK⟩
  have hQ1 : Hp g ad1 122 (X0 g ad1) (fun q : Nat => s.heap.size ≤ q) s.heap H locs := ⟨hP1, hS⟩
  refine lv_aload_n hx hb dL_law_2096 rfl (lv_at hl 1 rfl) ?_
  refine lv_aload_n hx hb dL_law_2097 rfl (lv_at hl 0 rfl) ?_
  refine lv_iload_n hx hb dL_law_2098 rfl (lv_at hl 3 rfl) ?_
  refine lv_iconst (v := 1) hx hb dL_law_2099 (by decide) ?_
  refine lv_iadd hx hb dL_law_2100 ?_
  refine sb_at (P := fun z => W _ _ _ _ _ _ _ _ _ _ _ _ _ _ _ (F0 _ _ _ (.int z :: _))) (show (0 : Int32) + 1 = 1 by decide) ?_
  refine va_sld hx hb hX hbl hbA hS (vp_in_lit 1 6 (by decide)) dL_law_2101 ?_
  refine lv_aload_n hx hb dL_law_2102 rfl (lv_at hl 0 rfl) ?_
  refine lv_iload_n hx hb dL_law_2103 rfl (lv_at hl 3 rfl) ?_
  refine lv_iconst (v := 2) hx hb dL_law_2104 (by decide) ?_
  refine lv_iadd hx hb dL_law_2105 ?_
  refine sb_at (P := fun z => W _ _ _ _ _ _ _ _ _ _ _ _ _ _ _ (F0 _ _ _ (.int z :: _))) (show (0 : Int32) + 2 = 2 by decide) ?_
  refine va_sld hx hb hX hbl hbA hS (vp_in_lit 2 6 (by decide)) dL_law_2106 ?_
  refine lv_aload_n hx hb dL_law_2107 rfl (lv_at hl 0 rfl) ?_
  refine lv_iload_n hx hb dL_law_2108 rfl (lv_at hl 3 rfl) ?_
  refine lv_iconst (v := 3) hx hb dL_law_2109 (by decide) ?_
  refine lv_iadd hx hb dL_law_2110 ?_
  refine sb_at (P := fun z => W _ _ _ _ _ _ _ _ _ _ _ _ _ _ _ (F0 _ _ _ (.int z :: _))) (show (0 : Int32) + 3 = 3 by decide) ?_
  refine va_sld hx hb hX hbl hbA hS (vp_in_lit 3 6 (by decide)) dL_law_2111 ?_
  refine lv_aload_n hx hb dL_law_2112 rfl (lv_at hl 0 rfl) ?_
  refine lv_iload_n hx hb dL_law_2113 rfl (lv_at hl 3 rfl) ?_
  refine lv_iconst (v := 4) hx hb dL_law_2114 (by decide) ?_
  refine lv_iadd hx hb dL_law_2115 ?_
  refine sb_at (P := fun z => W _ _ _ _ _ _ _ _ _ _ _ _ _ _ _ (F0 _ _ _ (.int z :: _))) (show (0 : Int32) + 4 = 4 by decide) ?_
  refine va_sld hx hb hX hbl hbA hS (vp_in_lit 4 6 (by decide)) dL_law_2116 ?_
  refine lv_aload_n hx hb dL_law_2117 rfl (lv_at hl 0 rfl) ?_
  refine lv_iload_n hx hb dL_law_2118 rfl (lv_at hl 3 rfl) ?_
  refine lv_iconst (v := 5) hx hb dL_law_2119 (by decide) ?_
  refine lv_iadd hx hb dL_law_2120 ?_
  refine sb_at (P := fun z => W _ _ _ _ _ _ _ _ _ _ _ _ _ _ _ (F0 _ _ _ (.int z :: _))) (show (0 : Int32) + 5 = 5 by decide) ?_
  refine va_sld hx hb hX hbl hbA hS (vp_in_lit 5 6 (by decide)) dL_law_2121 ?_
  refine xcVi E (hs := ⟨hD1, hA1⟩) hQ1 hml hl.1 0 (fX11_paste l g ad1 hD1 (X0 g ad1) (fun i hi => rfl) (xs (1 : Int32).toNatClampNeg) (xs (2 : Int32).toNatClampNeg) (xs (3 : Int32).toNatClampNeg) (xs (4 : Int32).toNatClampNeg) (xs (5 : Int32).toNatClampNeg)) mX11_paste q1453 (by decide) rfl rfl rfl ⟨(Nat.le_of_ble_eq_true rfl), (Nat.le_of_ble_eq_true rfl)⟩ ⟨(Nat.le_of_ble_eq_true rfl), (Nat.le_of_ble_eq_true rfl)⟩ (Nat.le_of_ble_eq_true rfl) rfl dL_law_2122 (fun r1 S1 H locs hp1 hQ1 hk1 => ?_)
  have hS := hQ1.2
  have hQ2 : Hp g ad2 20 (M0 g ad2) (fun q : Nat => s.heap.size ≤ q) s.heap H locs := ⟨pw_kept hP2 hk1 hne, hQ1.2⟩
  refine lv_aload_n hx hb dL_law_2125 rfl (lv_at hl 2 rfl) ?_
  refine lv_aload_n hx hb dL_law_2126 rfl (lv_at hl 0 rfl) ?_
  refine lv_iload_n hx hb dL_law_2127 rfl (lv_at hl 3 rfl) ?_
  refine lv_iconst (v := 1) hx hb dL_law_2128 (by decide) ?_
  refine lv_iadd hx hb dL_law_2129 ?_
  refine sb_at (P := fun z => W _ _ _ _ _ _ _ _ _ _ _ _ _ _ _ (F0 _ _ _ (.int z :: _))) (show (0 : Int32) + 1 = 1 by decide) ?_
  refine va_sld hx hb hX hbl hbA hS (vp_in_lit 1 6 (by decide)) dL_law_2130 ?_
  refine lv_aload_n hx hb dL_law_2131 rfl (lv_at hl 0 rfl) ?_
  refine lv_iload_n hx hb dL_law_2132 rfl (lv_at hl 3 rfl) ?_
  refine lv_iconst (v := 2) hx hb dL_law_2133 (by decide) ?_
  refine lv_iadd hx hb dL_law_2134 ?_
  refine sb_at (P := fun z => W _ _ _ _ _ _ _ _ _ _ _ _ _ _ _ (F0 _ _ _ (.int z :: _))) (show (0 : Int32) + 2 = 2 by decide) ?_
  refine va_sld hx hb hX hbl hbA hS (vp_in_lit 2 6 (by decide)) dL_law_2135 ?_
  refine lv_aload_n hx hb dL_law_2136 rfl (lv_at hl 0 rfl) ?_
  refine lv_iload_n hx hb dL_law_2137 rfl (lv_at hl 3 rfl) ?_
  refine lv_iconst (v := 3) hx hb dL_law_2138 (by decide) ?_
  refine lv_iadd hx hb dL_law_2139 ?_
  refine sb_at (P := fun z => W _ _ _ _ _ _ _ _ _ _ _ _ _ _ _ (F0 _ _ _ (.int z :: _))) (show (0 : Int32) + 3 = 3 by decide) ?_
  refine va_sld hx hb hX hbl hbA hS (vp_in_lit 3 6 (by decide)) dL_law_2140 ?_
  refine lv_aload_n hx hb dL_law_2141 rfl (lv_at hl 0 rfl) ?_
  refine lv_iload_n hx hb dL_law_2142 rfl (lv_at hl 3 rfl) ?_
  refine lv_iconst (v := 4) hx hb dL_law_2143 (by decide) ?_
  refine lv_iadd hx hb dL_law_2144 ?_
  refine sb_at (P := fun z => W _ _ _ _ _ _ _ _ _ _ _ _ _ _ _ (F0 _ _ _ (.int z :: _))) (show (0 : Int32) + 4 = 4 by decide) ?_
  refine va_sld hx hb hX hbl hbA hS (vp_in_lit 4 6 (by decide)) dL_law_2145 ?_
  refine lv_aload_n hx hb dL_law_2146 rfl (lv_at hl 0 rfl) ?_
  refine lv_iload_n hx hb dL_law_2147 rfl (lv_at hl 3 rfl) ?_
  refine lv_iconst (v := 5) hx hb dL_law_2148 (by decide) ?_
  refine lv_iadd hx hb dL_law_2149 ?_
  refine sb_at (P := fun z => W _ _ _ _ _ _ _ _ _ _ _ _ _ _ _ (F0 _ _ _ (.int z :: _))) (show (0 : Int32) + 5 = 5 by decide) ?_
  refine va_sld hx hb hX hbl hbA hS (vp_in_lit 5 6 (by decide)) dL_law_2150 ?_
  refine xcVi E (hs := ⟨hD2, hA2⟩) hQ2 hml hl.1 0 (fX12_paste l g ad2 hD2 (M0 g ad2) (fun i hi => rfl) (xs (1 : Int32).toNatClampNeg) (xs (2 : Int32).toNatClampNeg) (xs (3 : Int32).toNatClampNeg) (xs (4 : Int32).toNatClampNeg) (xs (5 : Int32).toNatClampNeg)) mX12_paste q1601 (by decide) rfl rfl rfl ⟨(Nat.le_of_ble_eq_true rfl), (Nat.le_of_ble_eq_true rfl)⟩ ⟨(Nat.le_of_ble_eq_true rfl), (Nat.le_of_ble_eq_true rfl)⟩ (Nat.le_of_ble_eq_true rfl) rfl dL_law_2151 (fun r2 S2 H locs hp2 hQ2 hk2 => ?_)
  have hS := hQ2.2
  refine lv_icmp_eq (tgt := 2159) hx hb dL_law_2154 (by decide) (fun _ => ?_) (fun h => absurd (Eq.trans hp1 (Eq.symm hp2)) h)
  exact law_tail C0 hS hl
