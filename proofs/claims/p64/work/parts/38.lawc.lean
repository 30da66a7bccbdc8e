set_option maxHeartbeats 4000000 in
set_option maxRecDepth 100000 in
theorem law_case_32 {p : Program} {l : Launch} {e : Env} {s : State} {m : MethodId} {below : List Frame} {meth : Method} {c : Code} {b L : Nat} {xs : Nat → Int32} (C0 : lw_At p s m meth c b L xs) {g : GG} {tt : TT} {ad1 ad2 : Nat → Nat} (hK : KK g s) (hT : TW tt (fun q : Nat => s.heap.size ≤ q) s s.heap) (hD1 : Dj ad1 122) (hD2 : Dj ad2 20) (hA1 : ∀ i, i < 122 → (fun q : Nat => s.heap.size ≤ q) (ad1 i)) (hA2 : ∀ i, i < 20 → (fun q : Nat => s.heap.size ≤ q) (ad2 i)) (hne : ∀ i j, i < 122 → j < 20 → ad1 i ≠ ad2 j) {i : Nat} (hi : i + 6 ≤ L) (hL : L ≤ 3072) {S1 S2 : SS} (hG1 : GX g ad1 S1) (hG2 : GM g ad2 S2) (hR : RR S1 S2) {H : Heap} {locs : List Loc} (hP1 : PW g ad1 122 S1 H) (hP2 : PW g ad2 20 S2 H) (hS : va_S (fun q : Nat => s.heap.size ≤ q) s.heap H locs) {ls : Array Slot} (hl : lv_has ls 4 [(0, .ref b), (1, .ref (ad1 0)), (2, .ref (ad2 0)), (3, .int (nI i))]) (K : (∀ (S1 S2 : SS) (H : Heap) (locs : List Loc) (ls : Array Slot), GX g ad1 S1 → GM g ad2 S2 → RR S1 S2 → PW g ad1 122 S1 H → PW g ad2 20 S2 H → va_S (fun q : Nat => s.heap.size ≤ q) s.heap H locs → lv_has ls 4 [(0, .ref b), (1, .ref (ad1 0)), (2, .ref (ad2 0)), (3, .int (nI i))] → W p l e room_1 s m #[Value.ref b] below meth c H locs 142 12631 (lw_Z below #[Value.ref b] s) (F0 m 2159 ls []))) : W p l e room_1 s m #[Value.ref b] below meth c H locs 142 12631 (lw_Z below #[Value.ref b] s) (F0 m 1186 ls []) := by
  obtain ⟨hx, hb, hr, hml, hown, hts, hX, hbl, hlocks, hgv⟩ := id C0
  have hbA : ¬ (fun q : Nat => s.heap.size ≤ q) b := Nat.not_le.mpr hbl
  have E : Ev p s m #[Value.ref b] c cL_law "EbbWreckLaw" g := ⟨hx, hb, hown, fun w h => hts w (List.mem_filter.mp h).1, hK⟩
  refine lv_aload_n hx hb dL_law_1186 rfl (lv_at hl 1 rfl) ?_
  refine lv_aload_n hx hb dL_law_1187 rfl (lv_at hl 0 rfl) ?_
  refine lv_iload_n hx hb dL_law_1188 rfl (lv_at hl 3 rfl) ?_
  refine lv_iconst (v := 1) hx hb dL_law_1189 (by decide) ?_
  refine lv_iadd hx hb dL_law_1190 ?_
  refine sb_at (P := fun z => W _ _ _ _ _ _ _ _ _ _ _ _ _ _ _ (F0 _ _ _ (.int z :: _))) (nI_add i 1) ?_
  refine va_sld hx hb hX hbl hbA hS (vp_in_nI (show i + 1 < L by omega) (by omega)) dL_law_1191 ?_
  refine sb_at (P := fun z => W _ _ _ _ _ _ _ _ _ _ _ _ _ _ _ (F0 _ _ _ (.int z :: _))) (show xs (nI (i + 1)).toNatClampNeg = xs (i + 1) by rw [nI_clamp (by omega)]) ?_
  obtain ⟨hI1, r2, r39, r57, r75, ar2, ar39, ar57, ar75⟩ := id hG1
  obtain ⟨_, _, _, cc1, _⟩ := invX_0 hI1
  refine xcVi E ⟨hD1, hA1⟩ (⟨hP1, hS⟩ : Hp g ad1 122 S1 (fun q : Nat => s.heap.size ≤ q) s.heap H locs) hml hl.1 0 (gX11_eddy_0 l g ad1 hD1 S1 hI1 (xs (i + 1)) (by omega) (by omega) (by omega)) mX11_eddy q1117 (by decide) cc1 rfl rfl ⟨(Nat.le_of_ble_eq_true rfl), (Nat.le_of_ble_eq_true rfl)⟩ ⟨(Nat.le_of_ble_eq_true rfl), (Nat.le_of_ble_eq_true rfl)⟩ (Nat.le_of_ble_eq_true rfl) rfl dL_law_1192 (fun r1 S3 H locs hp1 hQ1 hk1 => ?_)
  obtain ⟨rfl, bb1⟩ := hp1
  have hG3 := hG1
  have hP3 : PW g ad1 122 S1 H := hQ1.1
  have hS := hQ1.2
  have hP2 : PW g ad2 20 S2 H := pw_kept hP2 hk1 hne
  refine lv_pop hx hb dL_law_1195 rfl ?_
  refine lv_aload_n hx hb dL_law_1196 rfl (lv_at hl 2 rfl) ?_
  refine lv_aload_n hx hb dL_law_1197 rfl (lv_at hl 0 rfl) ?_
  refine lv_iload_n hx hb dL_law_1198 rfl (lv_at hl 3 rfl) ?_
  refine lv_iconst (v := 1) hx hb dL_law_1199 (by decide) ?_
  refine lv_iadd hx hb dL_law_1200 ?_
  refine sb_at (P := fun z => W _ _ _ _ _ _ _ _ _ _ _ _ _ _ _ (F0 _ _ _ (.int z :: _))) (nI_add i 1) ?_
  refine va_sld hx hb hX hbl hbA hS (vp_in_nI (show i + 1 < L by omega) (by omega)) dL_law_1201 ?_
  refine sb_at (P := fun z => W _ _ _ _ _ _ _ _ _ _ _ _ _ _ _ (F0 _ _ _ (.int z :: _))) (show xs (nI (i + 1)).toNatClampNeg = xs (i + 1) by rw [nI_clamp (by omega)]) ?_
  obtain ⟨hI2, t0, t1, t2, t3, at0, at1, at2, at3, ht0, ht1, ht2, ht3⟩ := id hG2
  obtain ⟨_, _, _, _, _, _, _, _, _, _, _, _, _, _, _, _, _, _, _, cc2, _, _, _, _, _, _, _, _, _⟩ := invM_0 hI2
  refine xcVi E ⟨hD2, hA2⟩ (⟨hP2, hS⟩ : Hp g ad2 20 S2 (fun q : Nat => s.heap.size ≤ q) s.heap H locs) hml hl.1 0 (gX12_eddy_0 l g ad2 hD2 S2 hI2 (xs (i + 1)) (by omega) (by omega) (by omega) (by omega) (by omega)) mX12_eddy q1982 (by decide) cc2 rfl rfl ⟨(Nat.le_of_ble_eq_true rfl), (Nat.le_of_ble_eq_true rfl)⟩ ⟨(Nat.le_of_ble_eq_true rfl), (Nat.le_of_ble_eq_true rfl)⟩ (Nat.le_of_ble_eq_true rfl) rfl dL_law_1202 (fun r2 S4 H locs hp2 hQ2 hk2 => ?_)
  obtain ⟨hI4, o2, bb2⟩ := hp2
  have hG4 : GM g ad2 S4 := ⟨hI4, (by rw [o2 6 (by decide), o2 7 (by decide)]; exact t0), (by rw [o2 6 (by decide), o2 7 (by decide)]; exact t1), (by rw [o2 6 (by decide), o2 7 (by decide)]; exact t2), (by rw [o2 6 (by decide), o2 7 (by decide)]; exact t3), (at_tr at0 (o2 7 (by decide)) (o2 12 (by decide))), (at_tr at1 (o2 7 (by decide)) (o2 12 (by decide))), (at_tr at2 (o2 7 (by decide)) (o2 12 (by decide))), (at_tr at3 (o2 7 (by decide)) (o2 12 (by decide))), (ht_tr ht0 (o2 7 (by decide)) (o2 9 (by decide))), (ht_tr ht1 (o2 7 (by decide)) (o2 9 (by decide))), (ht_tr ht2 (o2 7 (by decide)) (o2 9 (by decide))), (ht_tr ht3 (o2 7 (by decide)) (o2 9 (by decide)))⟩
  have hS := hQ2.2
  have hP4 : PW g ad2 20 S4 H := hQ2.1
  have hP3 : PW g ad1 122 S1 H := pw_kept hP3 hk2 (fun i j hi hj e => hne j i hj hi e.symm)
  have hR4 : RR S1 S4 := rr_eq hR rfl rfl rfl (o2 13 (by decide)) (o2 1 (by decide)) (o2 2 (by decide))
  refine lv_pop hx hb dL_law_1205 rfl ?_
  refine lv_goto (tgt := 2159) hx hb dL_law_1206 (by decide) ?_
  exact K S1 S4 H locs ls hG3 hG4 hR4 hP3 hP4 hS hl
set_option maxHeartbeats 4000000 in
set_option maxRecDepth 100000 in
theorem law_case_33 {p : Program} {l : Launch} {e : Env} {s : State} {m : MethodId} {below : List Frame} {meth : Method} {c : Code} {b L : Nat} {xs : Nat → Int32} (C0 : lw_At p s m meth c b L xs) {g : GG} {tt : TT} {ad1 ad2 : Nat → Nat} (hK : KK g s) (hT : TW tt (fun q : Nat => s.heap.size ≤ q) s s.heap) (hD1 : Dj ad1 122) (hD2 : Dj ad2 20) (hA1 : ∀ i, i < 122 → (fun q : Nat => s.heap.size ≤ q) (ad1 i)) (hA2 : ∀ i, i < 20 → (fun q : Nat => s.heap.size ≤ q) (ad2 i)) (hne : ∀ i j, i < 122 → j < 20 → ad1 i ≠ ad2 j) {i : Nat} (hi : i + 6 ≤ L) (hL : L ≤ 3072) {S1 S2 : SS} (hG1 : GX g ad1 S1) (hG2 : GM g ad2 S2) (hR : RR S1 S2) {H : Heap} {locs : List Loc} (hP1 : PW g ad1 122 S1 H) (hP2 : PW g ad2 20 S2 H) (hS : va_S (fun q : Nat => s.heap.size ≤ q) s.heap H locs) {ls : Array Slot} (hl : lv_has ls 4 [(0, .ref b), (1, .ref (ad1 0)), (2, .ref (ad2 0)), (3, .int (nI i))]) (K : (∀ (S1 S2 : SS) (H : Heap) (locs : List Loc) (ls : Array Slot), GX g ad1 S1 → GM g ad2 S2 → RR S1 S2 → PW g ad1 122 S1 H → PW g ad2 20 S2 H → va_S (fun q : Nat => s.heap.size ≤ q) s.heap H locs → lv_has ls 4 [(0, .ref b), (1, .ref (ad1 0)), (2, .ref (ad2 0)), (3, .int (nI i))] → W p l e room_1 s m #[Value.ref b] below meth c H locs 142 12631 (lw_Z below #[Value.ref b] s) (F0 m 2159 ls []))) : W p l e room_1 s m #[Value.ref b] below meth c H locs 142 12631 (lw_Z below #[Value.ref b] s) (F0 m 1209 ls []) := by
  obtain ⟨hx, hb, hr, hml, hown, hts, hX, hbl, hlocks, hgv⟩ := id C0
  have hbA : ¬ (fun q : Nat => s.heap.size ≤ q) b := Nat.not_le.mpr hbl
  have E : Ev p s m #[Value.ref b] c cL_law "EbbWreckLaw" g := ⟨hx, hb, hown, fun w h => hts w (List.mem_filter.mp h).1, hK⟩
  refine lv_aload_n hx hb dL_law_1209 rfl (lv_at hl 1 rfl) ?_
  obtain ⟨hI1, r2, r39, r57, r75, ar2, ar39, ar57, ar75⟩ := id hG1
  obtain ⟨_, _, _, cc1, _⟩ := invX_0 hI1
  refine xcVi E ⟨hD1, hA1⟩ (⟨hP1, hS⟩ : Hp g ad1 122 S1 (fun q : Nat => s.heap.size ≤ q) s.heap H locs) hml hl.1 0 (gX11_stuck_0 l g ad1 hD1 S1 hI1 (by omega) (by omega) (by omega)) mX11_stuck q1127 (by decide) cc1 rfl rfl ⟨(Nat.le_of_ble_eq_true rfl), (Nat.le_of_ble_eq_true rfl)⟩ ⟨(Nat.le_of_ble_eq_true rfl), (Nat.le_of_ble_eq_true rfl)⟩ (Nat.le_of_ble_eq_true rfl) rfl dL_law_1210 (fun r1 S3 H locs hp1 hQ1 hk1 => ?_)
  obtain ⟨hI3, o1⟩ := hp1
  have hG3 : GX g ad1 S3 := ⟨hI3, (by rw [o1 2 (by decide)]; exact r2), (by rw [o1 39 (by decide)]; exact r39), (by rw [o1 57 (by decide)]; exact r57), (by rw [o1 75 (by decide)]; exact r75), (ar_tr ar2 (o1 16 (by decide)) (o1 17 (by decide)) (o1 18 (by decide)) (o1 19 (by decide))), (ar_tr ar39 (o1 53 (by decide)) (o1 54 (by decide)) (o1 55 (by decide)) (o1 56 (by decide))), (ar_tr ar57 (o1 71 (by decide)) (o1 72 (by decide)) (o1 73 (by decide)) (o1 74 (by decide))), (ar_tr ar75 (o1 89 (by decide)) (o1 90 (by decide)) (o1 91 (by decide)) (o1 92 (by decide)))⟩
  have hP3 : PW g ad1 122 S3 H := hQ1.1
  have hS := hQ1.2
  have hP2 : PW g ad2 20 S2 H := pw_kept hP2 hk1 hne
  refine lv_pop hx hb dL_law_1213 rfl ?_
  refine lv_aload_n hx hb dL_law_1214 rfl (lv_at hl 2 rfl) ?_
  obtain ⟨hI2, t0, t1, t2, t3, at0, at1, at2, at3, ht0, ht1, ht2, ht3⟩ := id hG2
  obtain ⟨_, _, _, _, _, _, _, _, _, _, _, _, _, _, _, _, _, _, _, cc2, _, _, _, _, _, _, _, _, _⟩ := invM_0 hI2
  refine xcVi E ⟨hD2, hA2⟩ (⟨hP2, hS⟩ : Hp g ad2 20 S2 (fun q : Nat => s.heap.size ≤ q) s.heap H locs) hml hl.1 0 (gX12_stuck_0 l g ad2 hD2 S2 hI2 (by omega) (by omega) (by omega) (by omega) (by omega)) mX12_stuck q1990 (by decide) cc2 rfl rfl ⟨(Nat.le_of_ble_eq_true rfl), (Nat.le_of_ble_eq_true rfl)⟩ ⟨(Nat.le_of_ble_eq_true rfl), (Nat.le_of_ble_eq_true rfl)⟩ (Nat.le_of_ble_eq_true rfl) rfl dL_law_1215 (fun r2 S4 H locs hp2 hQ2 hk2 => ?_)
  obtain ⟨hI4, o2⟩ := hp2
  have hG4 : GM g ad2 S4 := ⟨hI4, (by rw [o2 6 (by decide), o2 7 (by decide)]; exact t0), (by rw [o2 6 (by decide), o2 7 (by decide)]; exact t1), (by rw [o2 6 (by decide), o2 7 (by decide)]; exact t2), (by rw [o2 6 (by decide), o2 7 (by decide)]; exact t3), (at_tr at0 (o2 7 (by decide)) (o2 12 (by decide))), (at_tr at1 (o2 7 (by decide)) (o2 12 (by decide))), (at_tr at2 (o2 7 (by decide)) (o2 12 (by decide))), (at_tr at3 (o2 7 (by decide)) (o2 12 (by decide))), (ht_tr ht0 (o2 7 (by decide)) (o2 9 (by decide))), (ht_tr ht1 (o2 7 (by decide)) (o2 9 (by decide))), (ht_tr ht2 (o2 7 (by decide)) (o2 9 (by decide))), (ht_tr ht3 (o2 7 (by decide)) (o2 9 (by decide)))⟩
  have hS := hQ2.2
  have hP4 : PW g ad2 20 S4 H := hQ2.1
  have hP3 : PW g ad1 122 S3 H := pw_kept hP3 hk2 (fun i j hi hj e => hne j i hj hi e.symm)
  have hR4 : RR S3 S4 := rr_eq hR (o1 93 (by decide)) (o1 117 (by decide)) (o1 118 (by decide)) (o2 13 (by decide)) (o2 1 (by decide)) (o2 2 (by decide))
  refine lv_pop hx hb dL_law_1218 rfl ?_
  refine lv_goto (tgt := 2159) hx hb dL_law_1219 (by decide) ?_
  exact K S3 S4 H locs ls hG3 hG4 hR4 hP3 hP4 hS hl
set_option maxHeartbeats 4000000 in
set_option maxRecDepth 100000 in
theorem law_case_34 {p : Program} {l : Launch} {e : Env} {s : State} {m : MethodId} {below : List Frame} {meth : Method} {c : Code} {b L : Nat} {xs : Nat → Int32} (C0 : lw_At p s m meth c b L xs) {g : GG} {tt : TT} {ad1 ad2 : Nat → Nat} (hK : KK g s) (hT : TW tt (fun q : Nat => s.heap.size ≤ q) s s.heap) (hD1 : Dj ad1 122) (hD2 : Dj ad2 20) (hA1 : ∀ i, i < 122 → (fun q : Nat => s.heap.size ≤ q) (ad1 i)) (hA2 : ∀ i, i < 20 → (fun q : Nat => s.heap.size ≤ q) (ad2 i)) (hne : ∀ i j, i < 122 → j < 20 → ad1 i ≠ ad2 j) {i : Nat} (hi : i + 6 ≤ L) (hL : L ≤ 3072) {S1 S2 : SS} (hG1 : GX g ad1 S1) (hG2 : GM g ad2 S2) (hR : RR S1 S2) {H : Heap} {locs : List Loc} (hP1 : PW g ad1 122 S1 H) (hP2 : PW g ad2 20 S2 H) (hS : va_S (fun q : Nat => s.heap.size ≤ q) s.heap H locs) {ls : Array Slot} (hl : lv_has ls 4 [(0, .ref b), (1, .ref (ad1 0)), (2, .ref (ad2 0)), (3, .int (nI i))]) (K : (∀ (S1 S2 : SS) (H : Heap) (locs : List Loc) (ls : Array Slot), GX g ad1 S1 → GM g ad2 S2 → RR S1 S2 → PW g ad1 122 S1 H → PW g ad2 20 S2 H → va_S (fun q : Nat => s.heap.size ≤ q) s.heap H locs → lv_has ls 4 [(0, .ref b), (1, .ref (ad1 0)), (2, .ref (ad2 0)), (3, .int (nI i))] → W p l e room_1 s m #[Value.ref b] below meth c H locs 142 12631 (lw_Z below #[Value.ref b] s) (F0 m 2159 ls []))) : W p l e room_1 s m #[Value.ref b] below meth c H locs 142 12631 (lw_Z below #[Value.ref b] s) (F0 m 1222 ls []) := by
  obtain ⟨hx, hb, hr, hml, hown, hts, hX, hbl, hlocks, hgv⟩ := id C0
  have hbA : ¬ (fun q : Nat => s.heap.size ≤ q) b := Nat.not_le.mpr hbl
  have E : Ev p s m #[Value.ref b] c cL_law "EbbWreckLaw" g := ⟨hx, hb, hown, fun w h => hts w (List.mem_filter.mp h).1, hK⟩
  refine lv_aload_n hx hb dL_law_1222 rfl (lv_at hl 1 rfl) ?_
  refine lv_aload_n hx hb dL_law_1223 rfl (lv_at hl 0 rfl) ?_
  refine lv_iload_n hx hb dL_law_1224 rfl (lv_at hl 3 rfl) ?_
  refine lv_iconst (v := 1) hx hb dL_law_1225 (by decide) ?_
  refine lv_iadd hx hb dL_law_1226 ?_
  refine sb_at (P := fun z => W _ _ _ _ _ _ _ _ _ _ _ _ _ _ _ (F0 _ _ _ (.int z :: _))) (nI_add i 1) ?_
  refine va_sld hx hb hX hbl hbA hS (vp_in_nI (show i + 1 < L by omega) (by omega)) dL_law_1227 ?_
  refine sb_at (P := fun z => W _ _ _ _ _ _ _ _ _ _ _ _ _ _ _ (F0 _ _ _ (.int z :: _))) (show xs (nI (i + 1)).toNatClampNeg = xs (i + 1) by rw [nI_clamp (by omega)]) ?_
  refine lv_aload_n hx hb dL_law_1228 rfl (lv_at hl 0 rfl) ?_
  refine lv_iload_n hx hb dL_law_1229 rfl (lv_at hl 3 rfl) ?_
  refine lv_iconst (v := 2) hx hb dL_law_1230 (by decide) ?_
  refine lv_iadd hx hb dL_law_1231 ?_
  refine sb_at (P := fun z => W _ _ _ _ _ _ _ _ _ _ _ _ _ _ _ (F0 _ _ _ (.int z :: _))) (nI_add i 2) ?_
  refine va_sld hx hb hX hbl hbA hS (vp_in_nI (show i + 2 < L by omega) (by omega)) dL_law_1232 ?_
  refine sb_at (P := fun z => W _ _ _ _ _ _ _ _ _ _ _ _ _ _ _ (F0 _ _ _ (.int z :: _))) (show xs (nI (i + 2)).toNatClampNeg = xs (i + 2) by rw [nI_clamp (by omega)]) ?_
  obtain ⟨hI1, r2, r39, r57, r75, ar2, ar39, ar57, ar75⟩ := id hG1
  obtain ⟨_, _, _, cc1, _⟩ := invX_0 hI1
  refine xcVi E ⟨hD1, hA1⟩ (⟨hP1, hS⟩ : Hp g ad1 122 S1 (fun q : Nat => s.heap.size ≤ q) s.heap H locs) hml hl.1 0 (gX11_drop_0 l g ad1 hD1 S1 hI1 (xs (i + 1)) (xs (i + 2)) (by omega) (by omega) (by omega)) mX11_drop q1154 (by decide) cc1 rfl rfl ⟨(Nat.le_of_ble_eq_true rfl), (Nat.le_of_ble_eq_true rfl)⟩ ⟨(Nat.le_of_ble_eq_true rfl), (Nat.le_of_ble_eq_true rfl)⟩ (Nat.le_of_ble_eq_true rfl) rfl dL_law_1233 (fun r1 S3 H locs hp1 hQ1 hk1 => ?_)
  obtain ⟨hI3, o1⟩ := hp1
  have hG3 : GX g ad1 S3 := ⟨hI3, (by rw [o1 2 (by decide)]; exact r2), (by rw [o1 39 (by decide)]; exact r39), (by rw [o1 57 (by decide)]; exact r57), (by rw [o1 75 (by decide)]; exact r75), (ar_tr ar2 (o1 16 (by decide)) (o1 17 (by decide)) (o1 18 (by decide)) (o1 19 (by decide))), (ar_tr ar39 (o1 53 (by decide)) (o1 54 (by decide)) (o1 55 (by decide)) (o1 56 (by decide))), (ar_tr ar57 (o1 71 (by decide)) (o1 72 (by decide)) (o1 73 (by decide)) (o1 74 (by decide))), (ar_tr ar75 (o1 89 (by decide)) (o1 90 (by decide)) (o1 91 (by decide)) (o1 92 (by decide)))⟩
  have hP3 : PW g ad1 122 S3 H := hQ1.1
  have hS := hQ1.2
  have hP2 : PW g ad2 20 S2 H := pw_kept hP2 hk1 hne
  refine lv_pop hx hb dL_law_1236 rfl ?_
  refine lv_aload_n hx hb dL_law_1237 rfl (lv_at hl 2 rfl) ?_
  refine lv_aload_n hx hb dL_law_1238 rfl (lv_at hl 0 rfl) ?_
  refine lv_iload_n hx hb dL_law_1239 rfl (lv_at hl 3 rfl) ?_
  refine lv_iconst (v := 1) hx hb dL_law_1240 (by decide) ?_
  refine lv_iadd hx hb dL_law_1241 ?_
  refine sb_at (P := fun z => W _ _ _ _ _ _ _ _ _ _ _ _ _ _ _ (F0 _ _ _ (.int z :: _))) (nI_add i 1) ?_
  refine va_sld hx hb hX hbl hbA hS (vp_in_nI (show i + 1 < L by omega) (by omega)) dL_law_1242 ?_
  refine sb_at (P := fun z => W _ _ _ _ _ _ _ _ _ _ _ _ _ _ _ (F0 _ _ _ (.int z :: _))) (show xs (nI (i + 1)).toNatClampNeg = xs (i + 1) by rw [nI_clamp (by omega)]) ?_
  refine lv_aload_n hx hb dL_law_1243 rfl (lv_at hl 0 rfl) ?_
  refine lv_iload_n hx hb dL_law_1244 rfl (lv_at hl 3 rfl) ?_
  refine lv_iconst (v := 2) hx hb dL_law_1245 (by decide) ?_
  refine lv_iadd hx hb dL_law_1246 ?_
  refine sb_at (P := fun z => W _ _ _ _ _ _ _ _ _ _ _ _ _ _ _ (F0 _ _ _ (.int z :: _))) (nI_add i 2) ?_
  refine va_sld hx hb hX hbl hbA hS (vp_in_nI (show i + 2 < L by omega) (by omega)) dL_law_1247 ?_
  refine sb_at (P := fun z => W _ _ _ _ _ _ _ _ _ _ _ _ _ _ _ (F0 _ _ _ (.int z :: _))) (show xs (nI (i + 2)).toNatClampNeg = xs (i + 2) by rw [nI_clamp (by omega)]) ?_
  obtain ⟨hI2, t0, t1, t2, t3, at0, at1, at2, at3, ht0, ht1, ht2, ht3⟩ := id hG2
  obtain ⟨_, _, _, _, _, _, _, _, _, _, _, _, _, _, _, _, _, _, _, cc2, _, _, _, _, _, _, _, _, _⟩ := invM_0 hI2
  refine xcVi E ⟨hD2, hA2⟩ (⟨hP2, hS⟩ : Hp g ad2 20 S2 (fun q : Nat => s.heap.size ≤ q) s.heap H locs) hml hl.1 0 (gX12_drop_0 l g ad2 hD2 S2 hI2 (xs (i + 1)) (xs (i + 2)) (by omega) (by omega) (by omega) (by omega) (by omega)) mX12_drop q1994 (by decide) cc2 rfl rfl ⟨(Nat.le_of_ble_eq_true rfl), (Nat.le_of_ble_eq_true rfl)⟩ ⟨(Nat.le_of_ble_eq_true rfl), (Nat.le_of_ble_eq_true rfl)⟩ (Nat.le_of_ble_eq_true rfl) rfl dL_law_1248 (fun r2 S4 H locs hp2 hQ2 hk2 => ?_)
  obtain ⟨hI4, o2⟩ := hp2
  have hG4 : GM g ad2 S4 := ⟨hI4, (by rw [o2 6 (by decide), o2 7 (by decide)]; exact t0), (by rw [o2 6 (by decide), o2 7 (by decide)]; exact t1), (by rw [o2 6 (by decide), o2 7 (by decide)]; exact t2), (by rw [o2 6 (by decide), o2 7 (by decide)]; exact t3), (at_tr at0 (o2 7 (by decide)) (o2 12 (by decide))), (at_tr at1 (o2 7 (by decide)) (o2 12 (by decide))), (at_tr at2 (o2 7 (by decide)) (o2 12 (by decide))), (at_tr at3 (o2 7 (by decide)) (o2 12 (by decide))), (ht_tr ht0 (o2 7 (by decide)) (o2 9 (by decide))), (ht_tr ht1 (o2 7 (by decide)) (o2 9 (by decide))), (ht_tr ht2 (o2 7 (by decide)) (o2 9 (by decide))), (ht_tr ht3 (o2 7 (by decide)) (o2 9 (by decide)))⟩
  have hS := hQ2.2
  have hP4 : PW g ad2 20 S4 H := hQ2.1
  have hP3 : PW g ad1 122 S3 H := pw_kept hP3 hk2 (fun i j hi hj e => hne j i hj hi e.symm)
  have hR4 : RR S3 S4 := rr_eq hR (o1 93 (by decide)) (o1 117 (by decide)) (o1 118 (by decide)) (o2 13 (by decide)) (o2 1 (by decide)) (o2 2 (by decide))
  refine lv_pop hx hb dL_law_1251 rfl ?_
  refine lv_goto (tgt := 2159) hx hb dL_law_1252 (by decide) ?_
  exact K S3 S4 H locs ls hG3 hG4 hR4 hP3 hP4 hS hl
set_option maxHeartbeats 4000000 in
set_option maxRecDepth 100000 in
theorem law_case_35 {p : Program} {l : Launch} {e : Env} {s : State} {m : MethodId} {below : List Frame} {meth : Method} {c : Code} {b L : Nat} {xs : Nat → Int32} (C0 : lw_At p s m meth c b L xs) {g : GG} {tt : TT} {ad1 ad2 : Nat → Nat} (hK : KK g s) (hT : TW tt (fun q : Nat => s.heap.size ≤ q) s s.heap) (hD1 : Dj ad1 122) (hD2 : Dj ad2 20) (hA1 : ∀ i, i < 122 → (fun q : Nat => s.heap.size ≤ q) (ad1 i)) (hA2 : ∀ i, i < 20 → (fun q : Nat => s.heap.size ≤ q) (ad2 i)) (hne : ∀ i j, i < 122 → j < 20 → ad1 i ≠ ad2 j) {i : Nat} (hi : i + 6 ≤ L) (hL : L ≤ 3072) {S1 S2 : SS} (hG1 : GX g ad1 S1) (hG2 : GM g ad2 S2) (hR : RR S1 S2) {H : Heap} {locs : List Loc} (hP1 : PW g ad1 122 S1 H) (hP2 : PW g ad2 20 S2 H) (hS : va_S (fun q : Nat => s.heap.size ≤ q) s.heap H locs) {ls : Array Slot} (hl : lv_has ls 4 [(0, .ref b), (1, .ref (ad1 0)), (2, .ref (ad2 0)), (3, .int (nI i))]) (K : (∀ (S1 S2 : SS) (H : Heap) (locs : List Loc) (ls : Array Slot), GX g ad1 S1 → GM g ad2 S2 → RR S1 S2 → PW g ad1 122 S1 H → PW g ad2 20 S2 H → va_S (fun q : Nat => s.heap.size ≤ q) s.heap H locs → lv_has ls 4 [(0, .ref b), (1, .ref (ad1 0)), (2, .ref (ad2 0)), (3, .int (nI i))] → W p l e room_1 s m #[Value.ref b] below meth c H locs 142 12631 (lw_Z below #[Value.ref b] s) (F0 m 2159 ls []))) : W p l e room_1 s m #[Value.ref b] below meth c H locs 142 12631 (lw_Z below #[Value.ref b] s) (F0 m 1255 ls []) := by
  obtain ⟨hx, hb, hr, hml, hown, hts, hX, hbl, hlocks, hgv⟩ := id C0
  have hbA : ¬ (fun q : Nat => s.heap.size ≤ q) b := Nat.not_le.mpr hbl
  have E : Ev p s m #[Value.ref b] c cL_law "EbbWreckLaw" g := ⟨hx, hb, hown, fun w h => hts w (List.mem_filter.mp h).1, hK⟩
  refine lv_aload_n hx hb dL_law_1255 rfl (lv_at hl 1 rfl) ?_
  refine lv_aload_n hx hb dL_law_1256 rfl (lv_at hl 0 rfl) ?_
  refine lv_iload_n hx hb dL_law_1257 rfl (lv_at hl 3 rfl) ?_
  refine lv_iconst (v := 1) hx hb dL_law_1258 (by decide) ?_
  refine lv_iadd hx hb dL_law_1259 ?_
  refine sb_at (P := fun z => W _ _ _ _ _ _ _ _ _ _ _ _ _ _ _ (F0 _ _ _ (.int z :: _))) (nI_add i 1) ?_
  refine va_sld hx hb hX hbl hbA hS (vp_in_nI (show i + 1 < L by omega) (by omega)) dL_law_1260 ?_
  refine sb_at (P := fun z => W _ _ _ _ _ _ _ _ _ _ _ _ _ _ _ (F0 _ _ _ (.int z :: _))) (show xs (nI (i + 1)).toNatClampNeg = xs (i + 1) by rw [nI_clamp (by omega)]) ?_
  obtain ⟨hI1, r2, r39, r57, r75, ar2, ar39, ar57, ar75⟩ := id hG1
  obtain ⟨_, _, _, cc1, _⟩ := invX_0 hI1
  refine xcVi E ⟨hD1, hA1⟩ (⟨hP1, hS⟩ : Hp g ad1 122 S1 (fun q : Nat => s.heap.size ≤ q) s.heap H locs) hml hl.1 0 (gX11_drops_0 l g ad1 hD1 S1 hI1 (xs (i + 1)) (by omega) (by omega) (by omega)) mX11_drops q1162 (by decide) cc1 rfl rfl ⟨(Nat.le_of_ble_eq_true rfl), (Nat.le_of_ble_eq_true rfl)⟩ ⟨(Nat.le_of_ble_eq_true rfl), (Nat.le_of_ble_eq_true rfl)⟩ (Nat.le_of_ble_eq_true rfl) rfl dL_law_1261 (fun r1 S3 H locs hp1 hQ1 hk1 => ?_)
  obtain ⟨hI3, o1, bb1⟩ := hp1
  have hG3 : GX g ad1 S3 := ⟨hI3, (by rw [o1 2 (by decide)]; exact r2), (by rw [o1 39 (by decide)]; exact r39), (by rw [o1 57 (by decide)]; exact r57), (by rw [o1 75 (by decide)]; exact r75), (ar_tr ar2 (o1 16 (by decide)) (o1 17 (by decide)) (o1 18 (by decide)) (o1 19 (by decide))), (ar_tr ar39 (o1 53 (by decide)) (o1 54 (by decide)) (o1 55 (by decide)) (o1 56 (by decide))), (ar_tr ar57 (o1 71 (by decide)) (o1 72 (by decide)) (o1 73 (by decide)) (o1 74 (by decide))), (ar_tr ar75 (o1 89 (by decide)) (o1 90 (by decide)) (o1 91 (by decide)) (o1 92 (by decide)))⟩
  have hP3 : PW g ad1 122 S3 H := hQ1.1
  have hS := hQ1.2
  have hP2 : PW g ad2 20 S2 H := pw_kept hP2 hk1 hne
  refine lv_pop hx hb dL_law_1264 rfl ?_
  refine lv_aload_n hx hb dL_law_1265 rfl (lv_at hl 2 rfl) ?_
  refine lv_aload_n hx hb dL_law_1266 rfl (lv_at hl 0 rfl) ?_
  refine lv_iload_n hx hb dL_law_1267 rfl (lv_at hl 3 rfl) ?_
  refine lv_iconst (v := 1) hx hb dL_law_1268 (by decide) ?_
  refine lv_iadd hx hb dL_law_1269 ?_
  refine sb_at (P := fun z => W _ _ _ _ _ _ _ _ _ _ _ _ _ _ _ (F0 _ _ _ (.int z :: _))) (nI_add i 1) ?_
  refine va_sld hx hb hX hbl hbA hS (vp_in_nI (show i + 1 < L by omega) (by omega)) dL_law_1270 ?_
  refine sb_at (P := fun z => W _ _ _ _ _ _ _ _ _ _ _ _ _ _ _ (F0 _ _ _ (.int z :: _))) (show xs (nI (i + 1)).toNatClampNeg = xs (i + 1) by rw [nI_clamp (by omega)]) ?_
  obtain ⟨hI2, t0, t1, t2, t3, at0, at1, at2, at3, ht0, ht1, ht2, ht3⟩ := id hG2
  obtain ⟨_, _, _, _, _, _, _, _, _, _, _, _, _, _, _, _, _, _, _, cc2, _, _, _, _, _, _, _, _, _⟩ := invM_0 hI2
  refine xcVi E ⟨hD2, hA2⟩ (⟨hP2, hS⟩ : Hp g ad2 20 S2 (fun q : Nat => s.heap.size ≤ q) s.heap H locs) hml hl.1 0 (gX12_drops_0 l g ad2 hD2 S2 hI2 (xs (i + 1)) (by omega) (by omega) (by omega) (by omega) (by omega)) mX12_drops q2003 (by decide) cc2 rfl rfl ⟨(Nat.le_of_ble_eq_true rfl), (Nat.le_of_ble_eq_true rfl)⟩ ⟨(Nat.le_of_ble_eq_true rfl), (Nat.le_of_ble_eq_true rfl)⟩ (Nat.le_of_ble_eq_true rfl) rfl dL_law_1271 (fun r2 S4 H locs hp2 hQ2 hk2 => ?_)
  obtain ⟨hI4, o2, bb2⟩ := hp2
  have hG4 : GM g ad2 S4 := ⟨hI4, (by rw [o2 6 (by decide), o2 7 (by decide)]; exact t0), (by rw [o2 6 (by decide), o2 7 (by decide)]; exact t1), (by rw [o2 6 (by decide), o2 7 (by decide)]; exact t2), (by rw [o2 6 (by decide), o2 7 (by decide)]; exact t3), (at_tr at0 (o2 7 (by decide)) (o2 12 (by decide))), (at_tr at1 (o2 7 (by decide)) (o2 12 (by decide))), (at_tr at2 (o2 7 (by decide)) (o2 12 (by decide))), (at_tr at3 (o2 7 (by decide)) (o2 12 (by decide))), (ht_tr ht0 (o2 7 (by decide)) (o2 9 (by decide))), (ht_tr ht1 (o2 7 (by decide)) (o2 9 (by decide))), (ht_tr ht2 (o2 7 (by decide)) (o2 9 (by decide))), (ht_tr ht3 (o2 7 (by decide)) (o2 9 (by decide)))⟩
  have hS := hQ2.2
  have hP4 : PW g ad2 20 S4 H := hQ2.1
  have hP3 : PW g ad1 122 S3 H := pw_kept hP3 hk2 (fun i j hi hj e => hne j i hj hi e.symm)
  have hR4 : RR S3 S4 := rr_eq hR (o1 93 (by decide)) (o1 117 (by decide)) (o1 118 (by decide)) (o2 13 (by decide)) (o2 1 (by decide)) (o2 2 (by decide))
  refine lv_pop hx hb dL_law_1274 rfl ?_
  refine lv_goto (tgt := 2159) hx hb dL_law_1275 (by decide) ?_
  exact K S3 S4 H locs ls hG3 hG4 hR4 hP3 hP4 hS hl
set_option maxHeartbeats 4000000 in
set_option maxRecDepth 100000 in
theorem law_case_36 {p : Program} {l : Launch} {e : Env} {s : State} {m : MethodId} {below : List Frame} {meth : Method} {c : Code} {b L : Nat} {xs : Nat → Int32} (C0 : lw_At p s m meth c b L xs) {g : GG} {tt : TT} {ad1 ad2 : Nat → Nat} (hK : KK g s) (hT : TW tt (fun q : Nat => s.heap.size ≤ q) s s.heap) (hD1 : Dj ad1 122) (hD2 : Dj ad2 20) (hA1 : ∀ i, i < 122 → (fun q : Nat => s.heap.size ≤ q) (ad1 i)) (hA2 : ∀ i, i < 20 → (fun q : Nat => s.heap.size ≤ q) (ad2 i)) (hne : ∀ i j, i < 122 → j < 20 → ad1 i ≠ ad2 j) {i : Nat} (hi : i + 6 ≤ L) (hL : L ≤ 3072) {S1 S2 : SS} (hG1 : GX g ad1 S1) (hG2 : GM g ad2 S2) (hR : RR S1 S2) {H : Heap} {locs : List Loc} (hP1 : PW g ad1 122 S1 H) (hP2 : PW g ad2 20 S2 H) (hS : va_S (fun q : Nat => s.heap.size ≤ q) s.heap H locs) {ls : Array Slot} (hl : lv_has ls 4 [(0, .ref b), (1, .ref (ad1 0)), (2, .ref (ad2 0)), (3, .int (nI i))]) (K : (∀ (S1 S2 : SS) (H : Heap) (locs : List Loc) (ls : Array Slot), GX g ad1 S1 → GM g ad2 S2 → RR S1 S2 → PW g ad1 122 S1 H → PW g ad2 20 S2 H → va_S (fun q : Nat => s.heap.size ≤ q) s.heap H locs → lv_has ls 4 [(0, .ref b), (1, .ref (ad1 0)), (2, .ref (ad2 0)), (3, .int (nI i))] → W p l e room_1 s m #[Value.ref b] below meth c H locs 142 12631 (lw_Z below #[Value.ref b] s) (F0 m 2159 ls []))) : W p l e room_1 s m #[Value.ref b] below meth c H locs 142 12631 (lw_Z below #[Value.ref b] s) (F0 m 1278 ls []) := by
  obtain ⟨hx, hb, hr, hml, hown, hts, hX, hbl, hlocks, hgv⟩ := id C0
  have hbA : ¬ (fun q : Nat => s.heap.size ≤ q) b := Nat.not_le.mpr hbl
  have E : Ev p s m #[Value.ref b] c cL_law "EbbWreckLaw" g := ⟨hx, hb, hown, fun w h => hts w (List.mem_filter.mp h).1, hK⟩
  refine lv_aload_n hx hb dL_law_1278 rfl (lv_at hl 1 rfl) ?_
  refine lv_aload_n hx hb dL_law_1279 rfl (lv_at hl 0 rfl) ?_
  refine lv_iload_n hx hb dL_law_1280 rfl (lv_at hl 3 rfl) ?_
  refine lv_iconst (v := 1) hx hb dL_law_1281 (by decide) ?_
  refine lv_iadd hx hb dL_law_1282 ?_
  refine sb_at (P := fun z => W _ _ _ _ _ _ _ _ _ _ _ _ _ _ _ (F0 _ _ _ (.int z :: _))) (nI_add i 1) ?_
  refine va_sld hx hb hX hbl hbA hS (vp_in_nI (show i + 1 < L by omega) (by omega)) dL_law_1283 ?_
  refine sb_at (P := fun z => W _ _ _ _ _ _ _ _ _ _ _ _ _ _ _ (F0 _ _ _ (.int z :: _))) (show xs (nI (i + 1)).toNatClampNeg = xs (i + 1) by rw [nI_clamp (by omega)]) ?_
  obtain ⟨hI1, r2, r39, r57, r75, ar2, ar39, ar57, ar75⟩ := id hG1
  obtain ⟨_, _, _, cc1, _⟩ := invX_0 hI1
  refine xcVi E ⟨hD1, hA1⟩ (⟨hP1, hS⟩ : Hp g ad1 122 S1 (fun q : Nat => s.heap.size ≤ q) s.heap H locs) hml hl.1 0 (gX11_share_0 l g ad1 hD1 S1 hI1 (xs (i + 1)) (by omega) (by omega) (by omega)) mX11_share q1272 (by decide) cc1 rfl rfl ⟨(Nat.le_of_ble_eq_true rfl), (Nat.le_of_ble_eq_true rfl)⟩ ⟨(Nat.le_of_ble_eq_true rfl), (Nat.le_of_ble_eq_true rfl)⟩ (Nat.le_of_ble_eq_true rfl) rfl dL_law_1284 (fun r1 S3 H locs hp1 hQ1 hk1 => ?_)
  subst hp1
  have hG3 := hG1
  have hP3 : PW g ad1 122 S1 H := hQ1.1
  have hS := hQ1.2
  have hP2 : PW g ad2 20 S2 H := pw_kept hP2 hk1 hne
  refine lv_pop hx hb dL_law_1287 rfl ?_
  refine lv_aload_n hx hb dL_law_1288 rfl (lv_at hl 2 rfl) ?_
  refine lv_aload_n hx hb dL_law_1289 rfl (lv_at hl 0 rfl) ?_
  refine lv_iload_n hx hb dL_law_1290 rfl (lv_at hl 3 rfl) ?_
  refine lv_iconst (v := 1) hx hb dL_law_1291 (by decide) ?_
  refine lv_iadd hx hb dL_law_1292 ?_
  refine sb_at (P := fun z => W _ _ _ _ _ _ _ _ _ _ _ _ _ _ _ (F0 _ _ _ (.int z :: _))) (nI_add i 1) ?_
  refine va_sld hx hb hX hbl hbA hS (vp_in_nI (show i + 1 < L by omega) (by omega)) dL_law_1293 ?_
  refine sb_at (P := fun z => W _ _ _ _ _ _ _ _ _ _ _ _ _ _ _ (F0 _ _ _ (.int z :: _))) (show xs (nI (i + 1)).toNatClampNeg = xs (i + 1) by rw [nI_clamp (by omega)]) ?_
  obtain ⟨hI2, t0, t1, t2, t3, at0, at1, at2, at3, ht0, ht1, ht2, ht3⟩ := id hG2
  obtain ⟨_, _, _, _, _, _, _, _, _, _, _, _, _, _, _, _, _, _, _, cc2, _, _, _, _, _, _, _, _, _⟩ := invM_0 hI2
  refine xcVi E ⟨hD2, hA2⟩ (⟨hP2, hS⟩ : Hp g ad2 20 S2 (fun q : Nat => s.heap.size ≤ q) s.heap H locs) hml hl.1 0 (gX12_share_0 l g ad2 hD2 S2 hI2 (xs (i + 1)) (by omega) (by omega) (by omega) (by omega) (by omega) at0) mX12_share q2070 (by decide) cc2 rfl rfl ⟨(Nat.le_of_ble_eq_true rfl), (Nat.le_of_ble_eq_true rfl)⟩ ⟨(Nat.le_of_ble_eq_true rfl), (Nat.le_of_ble_eq_true rfl)⟩ (Nat.le_of_ble_eq_true rfl) rfl dL_law_1294 (fun r2 S4 H locs hp2 hQ2 hk2 => ?_)
  obtain ⟨hI4, o2⟩ := hp2
  have hG4 : GM g ad2 S4 := ⟨hI4, (by rw [o2 6 (by decide), o2 7 (by decide)]; exact t0), (by rw [o2 6 (by decide), o2 7 (by decide)]; exact t1), (by rw [o2 6 (by decide), o2 7 (by decide)]; exact t2), (by rw [o2 6 (by decide), o2 7 (by decide)]; exact t3), (at_tr at0 (o2 7 (by decide)) (o2 12 (by decide))), (at_tr at1 (o2 7 (by decide)) (o2 12 (by decide))), (at_tr at2 (o2 7 (by decide)) (o2 12 (by decide))), (at_tr at3 (o2 7 (by decide)) (o2 12 (by decide))), (ht_tr ht0 (o2 7 (by decide)) (o2 9 (by decide))), (ht_tr ht1 (o2 7 (by decide)) (o2 9 (by decide))), (ht_tr ht2 (o2 7 (by decide)) (o2 9 (by decide))), (ht_tr ht3 (o2 7 (by decide)) (o2 9 (by decide)))⟩
  have hS := hQ2.2
  have hP4 : PW g ad2 20 S4 H := hQ2.1
  have hP3 : PW g ad1 122 S1 H := pw_kept hP3 hk2 (fun i j hi hj e => hne j i hj hi e.symm)
  have hR4 : RR S1 S4 := rr_eq hR rfl rfl rfl (o2 13 (by decide)) (o2 1 (by decide)) (o2 2 (by decide))
  refine lv_pop hx hb dL_law_1297 rfl ?_
  refine lv_goto (tgt := 2159) hx hb dL_law_1298 (by decide) ?_
  exact K S1 S4 H locs ls hG3 hG4 hR4 hP3 hP4 hS hl
set_option maxHeartbeats 4000000 in
set_option maxRecDepth 100000 in
theorem law_case_37 {p : Program} {l : Launch} {e : Env} {s : State} {m : MethodId} {below : List Frame} {meth : Method} {c : Code} {b L : Nat} {xs : Nat → Int32} (C0 : lw_At p s m meth c b L xs) {g : GG} {tt : TT} {ad1 ad2 : Nat → Nat} (hK : KK g s) (hT : TW tt (fun q : Nat => s.heap.size ≤ q) s s.heap) (hD1 : Dj ad1 122) (hD2 : Dj ad2 20) (hA1 : ∀ i, i < 122 → (fun q : Nat => s.heap.size ≤ q) (ad1 i)) (hA2 : ∀ i, i < 20 → (fun q : Nat => s.heap.size ≤ q) (ad2 i)) (hne : ∀ i j, i < 122 → j < 20 → ad1 i ≠ ad2 j) {i : Nat} (hi : i + 6 ≤ L) (hL : L ≤ 3072) {S1 S2 : SS} (hG1 : GX g ad1 S1) (hG2 : GM g ad2 S2) (hR : RR S1 S2) {H : Heap} {locs : List Loc} (hP1 : PW g ad1 122 S1 H) (hP2 : PW g ad2 20 S2 H) (hS : va_S (fun q : Nat => s.heap.size ≤ q) s.heap H locs) {ls : Array Slot} (hl : lv_has ls 4 [(0, .ref b), (1, .ref (ad1 0)), (2, .ref (ad2 0)), (3, .int (nI i))]) (K : (∀ (S1 S2 : SS) (H : Heap) (locs : List Loc) (ls : Array Slot), GX g ad1 S1 → GM g ad2 S2 → RR S1 S2 → PW g ad1 122 S1 H → PW g ad2 20 S2 H → va_S (fun q : Nat => s.heap.size ≤ q) s.heap H locs → lv_has ls 4 [(0, .ref b), (1, .ref (ad1 0)), (2, .ref (ad2 0)), (3, .int (nI i))] → W p l e room_1 s m #[Value.ref b] below meth c H locs 142 12631 (lw_Z below #[Value.ref b] s) (F0 m 2159 ls []))) : W p l e room_1 s m #[Value.ref b] below meth c H locs 142 12631 (lw_Z below #[Value.ref b] s) (F0 m 1301 ls []) := by
  obtain ⟨hx, hb, hr, hml, hown, hts, hX, hbl, hlocks, hgv⟩ := id C0
  have hbA : ¬ (fun q : Nat => s.heap.size ≤ q) b := Nat.not_le.mpr hbl
  have E : Ev p s m #[Value.ref b] c cL_law "EbbWreckLaw" g := ⟨hx, hb, hown, fun w h => hts w (List.mem_filter.mp h).1, hK⟩
  refine lv_aload_n hx hb dL_law_1301 rfl (lv_at hl 1 rfl) ?_
  refine lv_aload_n hx hb dL_law_1302 rfl (lv_at hl 0 rfl) ?_
  refine lv_iload_n hx hb dL_law_1303 rfl (lv_at hl 3 rfl) ?_
  refine lv_iconst (v := 1) hx hb dL_law_1304 (by decide) ?_
  refine lv_iadd hx hb dL_law_1305 ?_
  refine sb_at (P := fun z => W _ _ _ _ _ _ _ _ _ _ _ _ _ _ _ (F0 _ _ _ (.int z :: _))) (nI_add i 1) ?_
  refine va_sld hx hb hX hbl hbA hS (vp_in_nI (show i + 1 < L by omega) (by omega)) dL_law_1306 ?_
  refine sb_at (P := fun z => W _ _ _ _ _ _ _ _ _ _ _ _ _ _ _ (F0 _ _ _ (.int z :: _))) (show xs (nI (i + 1)).toNatClampNeg = xs (i + 1) by rw [nI_clamp (by omega)]) ?_
  refine lv_aload_n hx hb dL_law_1307 rfl (lv_at hl 0 rfl) ?_
  refine lv_iload_n hx hb dL_law_1308 rfl (lv_at hl 3 rfl) ?_
  refine lv_iconst (v := 2) hx hb dL_law_1309 (by decide) ?_
  refine lv_iadd hx hb dL_law_1310 ?_
  refine sb_at (P := fun z => W _ _ _ _ _ _ _ _ _ _ _ _ _ _ _ (F0 _ _ _ (.int z :: _))) (nI_add i 2) ?_
  refine va_sld hx hb hX hbl hbA hS (vp_in_nI (show i + 2 < L by omega) (by omega)) dL_law_1311 ?_
  refine sb_at (P := fun z => W _ _ _ _ _ _ _ _ _ _ _ _ _ _ _ (F0 _ _ _ (.int z :: _))) (show xs (nI (i + 2)).toNatClampNeg = xs (i + 2) by rw [nI_clamp (by omega)]) ?_
  refine lv_aload_n hx hb dL_law_1312 rfl (lv_at hl 0 rfl) ?_
  refine lv_iload_n hx hb dL_law_1313 rfl (lv_at hl 3 rfl) ?_
  refine lv_iconst (v := 3) hx hb dL_law_1314 (by decide) ?_
  refine lv_iadd hx hb dL_law_1315 ?_
  refine sb_at (P := fun z => W _ _ _ _ _ _ _ _ _ _ _ _ _ _ _ (F0 _ _ _ (.int z :: _))) (nI_add i 3) ?_
  refine va_sld hx hb hX hbl hbA hS (vp_in_nI (show i + 3 < L by omega) (by omega)) dL_law_1316 ?_
  refine sb_at (P := fun z => W _ _ _ _ _ _ _ _ _ _ _ _ _ _ _ (F0 _ _ _ (.int z :: _))) (show xs (nI (i + 3)).toNatClampNeg = xs (i + 3) by rw [nI_clamp (by omega)]) ?_
  obtain ⟨hI1, r2, r39, r57, r75, ar2, ar39, ar57, ar75⟩ := id hG1
  obtain ⟨_, _, _, cc1, _⟩ := invX_0 hI1
  refine xcVi E ⟨hD1, hA1⟩ (⟨hP1, hS⟩ : Hp g ad1 122 S1 (fun q : Nat => s.heap.size ≤ q) s.heap H locs) hml hl.1 0 (gX11_origins_0 l g ad1 hD1 S1 hI1 (xs (i + 1)) (xs (i + 2)) (xs (i + 3)) (by omega) (by omega) (by omega)) mX11_origins q1171 (by decide) cc1 rfl rfl ⟨(Nat.le_of_ble_eq_true rfl), (Nat.le_of_ble_eq_true rfl)⟩ ⟨(Nat.le_of_ble_eq_true rfl), (Nat.le_of_ble_eq_true rfl)⟩ (Nat.le_of_ble_eq_true rfl) rfl dL_law_1317 (fun r1 S3 H locs hp1 hQ1 hk1 => ?_)
  subst hp1
  have hG3 := hG1
  have hP3 : PW g ad1 122 S1 H := hQ1.1
  have hS := hQ1.2
  have hP2 : PW g ad2 20 S2 H := pw_kept hP2 hk1 hne
  refine lv_pop hx hb dL_law_1320 rfl ?_
  refine lv_aload_n hx hb dL_law_1321 rfl (lv_at hl 2 rfl) ?_
  refine lv_aload_n hx hb dL_law_1322 rfl (lv_at hl 0 rfl) ?_
  refine lv_iload_n hx hb dL_law_1323 rfl (lv_at hl 3 rfl) ?_
  refine lv_iconst (v := 1) hx hb dL_law_1324 (by decide) ?_
  refine lv_iadd hx hb dL_law_1325 ?_
  refine sb_at (P := fun z => W _ _ _ _ _ _ _ _ _ _ _ _ _ _ _ (F0 _ _ _ (.int z :: _))) (nI_add i 1) ?_
  refine va_sld hx hb hX hbl hbA hS (vp_in_nI (show i + 1 < L by omega) (by omega)) dL_law_1326 ?_
  refine sb_at (P := fun z => W _ _ _ _ _ _ _ _ _ _ _ _ _ _ _ (F0 _ _ _ (.int z :: _))) (show xs (nI (i + 1)).toNatClampNeg = xs (i + 1) by rw [nI_clamp (by omega)]) ?_
  refine lv_aload_n hx hb dL_law_1327 rfl (lv_at hl 0 rfl) ?_
  refine lv_iload_n hx hb dL_law_1328 rfl (lv_at hl 3 rfl) ?_
  refine lv_iconst (v := 2) hx hb dL_law_1329 (by decide) ?_
  refine lv_iadd hx hb dL_law_1330 ?_
  refine sb_at (P := fun z => W _ _ _ _ _ _ _ _ _ _ _ _ _ _ _ (F0 _ _ _ (.int z :: _))) (nI_add i 2) ?_
  refine va_sld hx hb hX hbl hbA hS (vp_in_nI (show i + 2 < L by omega) (by omega)) dL_law_1331 ?_
  refine sb_at (P := fun z => W _ _ _ _ _ _ _ _ _ _ _ _ _ _ _ (F0 _ _ _ (.int z :: _))) (show xs (nI (i + 2)).toNatClampNeg = xs (i + 2) by rw [nI_clamp (by omega)]) ?_
  refine lv_aload_n hx hb dL_law_1332 rfl (lv_at hl 0 rfl) ?_
  refine lv_iload_n hx hb dL_law_1333 rfl (lv_at hl 3 rfl) ?_
  refine lv_iconst (v := 3) hx hb dL_law_1334 (by decide) ?_
  refine lv_iadd hx hb dL_law_1335 ?_
  refine sb_at (P := fun z => W _ _ _ _ _ _ _ _ _ _ _ _ _ _ _ (F0 _ _ _ (.int z :: _))) (nI_add i 3) ?_
  refine va_sld hx hb hX hbl hbA hS (vp_in_nI (show i + 3 < L by omega) (by omega)) dL_law_1336 ?_
  refine sb_at (P := fun z => W _ _ _ _ _ _ _ _ _ _ _ _ _ _ _ (F0 _ _ _ (.int z :: _))) (show xs (nI (i + 3)).toNatClampNeg = xs (i + 3) by rw [nI_clamp (by omega)]) ?_
  obtain ⟨hI2, t0, t1, t2, t3, at0, at1, at2, at3, ht0, ht1, ht2, ht3⟩ := id hG2
  obtain ⟨_, _, _, _, _, _, _, _, _, _, _, _, _, _, _, _, _, _, _, cc2, _, _, _, _, _, _, _, _, _⟩ := invM_0 hI2
  refine xcVi E ⟨hD2, hA2⟩ (⟨hP2, hS⟩ : Hp g ad2 20 S2 (fun q : Nat => s.heap.size ≤ q) s.heap H locs) hml hl.1 0 (gX12_origins_0 l g ad2 hD2 S2 hI2 (xs (i + 1)) (xs (i + 2)) (xs (i + 3)) (by omega) (by omega) (by omega) (by omega) (by omega)) mX12_origins q2007 (by decide) cc2 rfl rfl ⟨(Nat.le_of_ble_eq_true rfl), (Nat.le_of_ble_eq_true rfl)⟩ ⟨(Nat.le_of_ble_eq_true rfl), (Nat.le_of_ble_eq_true rfl)⟩ (Nat.le_of_ble_eq_true rfl) rfl dL_law_1337 (fun r2 S4 H locs hp2 hQ2 hk2 => ?_)
  obtain ⟨hI4, o2⟩ := hp2
  have hG4 : GM g ad2 S4 := ⟨hI4, (by rw [o2 6 (by decide), o2 7 (by decide)]; exact t0), (by rw [o2 6 (by decide), o2 7 (by decide)]; exact t1), (by rw [o2 6 (by decide), o2 7 (by decide)]; exact t2), (by rw [o2 6 (by decide), o2 7 (by decide)]; exact t3), (at_tr at0 (o2 7 (by decide)) (o2 12 (by decide))), (at_tr at1 (o2 7 (by decide)) (o2 12 (by decide))), (at_tr at2 (o2 7 (by decide)) (o2 12 (by decide))), (at_tr at3 (o2 7 (by decide)) (o2 12 (by decide))), (ht_tr ht0 (o2 7 (by decide)) (o2 9 (by decide))), (ht_tr ht1 (o2 7 (by decide)) (o2 9 (by decide))), (ht_tr ht2 (o2 7 (by decide)) (o2 9 (by decide))), (ht_tr ht3 (o2 7 (by decide)) (o2 9 (by decide)))⟩
  have hS := hQ2.2
  have hP4 : PW g ad2 20 S4 H := hQ2.1
  have hP3 : PW g ad1 122 S1 H := pw_kept hP3 hk2 (fun i j hi hj e => hne j i hj hi e.symm)
  have hR4 : RR S1 S4 := rr_eq hR rfl rfl rfl (o2 13 (by decide)) (o2 1 (by decide)) (o2 2 (by decide))
  refine lv_pop hx hb dL_law_1340 rfl ?_
  refine lv_goto (tgt := 2159) hx hb dL_law_1341 (by decide) ?_
  exact K S1 S4 H locs ls hG3 hG4 hR4 hP3 hP4 hS hl
set_option maxHeartbeats 4000000 in
set_option maxRecDepth 100000 in
theorem law_case_38 {p : Program} {l : Launch} {e : Env} {s : State} {m : MethodId} {below : List Frame} {meth : Method} {c : Code} {b L : Nat} {xs : Nat → Int32} (C0 : lw_At p s m meth c b L xs) {g : GG} {tt : TT} {ad1 ad2 : Nat → Nat} (hK : KK g s) (hT : TW tt (fun q : Nat => s.heap.size ≤ q) s s.heap) (hD1 : Dj ad1 122) (hD2 : Dj ad2 20) (hA1 : ∀ i, i < 122 → (fun q : Nat => s.heap.size ≤ q) (ad1 i)) (hA2 : ∀ i, i < 20 → (fun q : Nat => s.heap.size ≤ q) (ad2 i)) (hne : ∀ i j, i < 122 → j < 20 → ad1 i ≠ ad2 j) {i : Nat} (hi : i + 6 ≤ L) (hL : L ≤ 3072) {S1 S2 : SS} (hG1 : GX g ad1 S1) (hG2 : GM g ad2 S2) (hR : RR S1 S2) {H : Heap} {locs : List Loc} (hP1 : PW g ad1 122 S1 H) (hP2 : PW g ad2 20 S2 H) (hS : va_S (fun q : Nat => s.heap.size ≤ q) s.heap H locs) {ls : Array Slot} (hl : lv_has ls 4 [(0, .ref b), (1, .ref (ad1 0)), (2, .ref (ad2 0)), (3, .int (nI i))]) (K : (∀ (S1 S2 : SS) (H : Heap) (locs : List Loc) (ls : Array Slot), GX g ad1 S1 → GM g ad2 S2 → RR S1 S2 → PW g ad1 122 S1 H → PW g ad2 20 S2 H → va_S (fun q : Nat => s.heap.size ≤ q) s.heap H locs → lv_has ls 4 [(0, .ref b), (1, .ref (ad1 0)), (2, .ref (ad2 0)), (3, .int (nI i))] → W p l e room_1 s m #[Value.ref b] below meth c H locs 142 12631 (lw_Z below #[Value.ref b] s) (F0 m 2159 ls []))) : W p l e room_1 s m #[Value.ref b] below meth c H locs 142 12631 (lw_Z below #[Value.ref b] s) (F0 m 1344 ls []) := by
  obtain ⟨hx, hb, hr, hml, hown, hts, hX, hbl, hlocks, hgv⟩ := id C0
  have hbA : ¬ (fun q : Nat => s.heap.size ≤ q) b := Nat.not_le.mpr hbl
  have E : Ev p s m #[Value.ref b] c cL_law "EbbWreckLaw" g := ⟨hx, hb, hown, fun w h => hts w (List.mem_filter.mp h).1, hK⟩
  refine lv_aload_n hx hb dL_law_1344 rfl (lv_at hl 1 rfl) ?_
  refine lv_aload_n hx hb dL_law_1345 rfl (lv_at hl 0 rfl) ?_
  refine lv_iload_n hx hb dL_law_1346 rfl (lv_at hl 3 rfl) ?_
  refine lv_iconst (v := 1) hx hb dL_law_1347 (by decide) ?_
  refine lv_iadd hx hb dL_law_1348 ?_
  refine sb_at (P := fun z => W _ _ _ _ _ _ _ _ _ _ _ _ _ _ _ (F0 _ _ _ (.int z :: _))) (nI_add i 1) ?_
  refine va_sld hx hb hX hbl hbA hS (vp_in_nI (show i + 1 < L by omega) (by omega)) dL_law_1349 ?_
  refine sb_at (P := fun z => W _ _ _ _ _ _ _ _ _ _ _ _ _ _ _ (F0 _ _ _ (.int z :: _))) (show xs (nI (i + 1)).toNatClampNeg = xs (i + 1) by rw [nI_clamp (by omega)]) ?_
  refine lv_aload_n hx hb dL_law_1350 rfl (lv_at hl 0 rfl) ?_
  refine lv_iload_n hx hb dL_law_1351 rfl (lv_at hl 3 rfl) ?_
  refine lv_iconst (v := 2) hx hb dL_law_1352 (by decide) ?_
  refine lv_iadd hx hb dL_law_1353 ?_
  refine sb_at (P := fun z => W _ _ _ _ _ _ _ _ _ _ _ _ _ _ _ (F0 _ _ _ (.int z :: _))) (nI_add i 2) ?_
  refine va_sld hx hb hX hbl hbA hS (vp_in_nI (show i + 2 < L by omega) (by omega)) dL_law_1354 ?_
  refine sb_at (P := fun z => W _ _ _ _ _ _ _ _ _ _ _ _ _ _ _ (F0 _ _ _ (.int z :: _))) (show xs (nI (i + 2)).toNatClampNeg = xs (i + 2) by rw [nI_clamp (by omega)]) ?_
  refine lv_aload_n hx hb dL_law_1355 rfl (lv_at hl 0 rfl) ?_
  refine lv_iload_n hx hb dL_law_1356 rfl (lv_at hl 3 rfl) ?_
  refine lv_iconst (v := 3) hx hb dL_law_1357 (by decide) ?_
  refine lv_iadd hx hb dL_law_1358 ?_
  refine sb_at (P := fun z => W _ _ _ _ _ _ _ _ _ _ _ _ _ _ _ (F0 _ _ _ (.int z :: _))) (nI_add i 3) ?_
  refine va_sld hx hb hX hbl hbA hS (vp_in_nI (show i + 3 < L by omega) (by omega)) dL_law_1359 ?_
  refine sb_at (P := fun z => W _ _ _ _ _ _ _ _ _ _ _ _ _ _ _ (F0 _ _ _ (.int z :: _))) (show xs (nI (i + 3)).toNatClampNeg = xs (i + 3) by rw [nI_clamp (by omega)]) ?_
  obtain ⟨hI1, r2, r39, r57, r75, ar2, ar39, ar57, ar75⟩ := id hG1
  obtain ⟨_, _, _, cc1, _⟩ := invX_0 hI1
  refine xcVi E ⟨hD1, hA1⟩ (⟨hP1, hS⟩ : Hp g ad1 122 S1 (fun q : Nat => s.heap.size ≤ q) s.heap H locs) hml hl.1 0 (gX11_when_0 l g ad1 hD1 S1 hI1 (xs (i + 1)) (xs (i + 2)) (xs (i + 3)) (by omega) (by omega) (by omega)) mX11_when q1183 (by decide) cc1 rfl rfl ⟨(Nat.le_of_ble_eq_true rfl), (Nat.le_of_ble_eq_true rfl)⟩ ⟨(Nat.le_of_ble_eq_true rfl), (Nat.le_of_ble_eq_true rfl)⟩ (Nat.le_of_ble_eq_true rfl) rfl dL_law_1360 (fun r1 S3 H locs hp1 hQ1 hk1 => ?_)
  obtain ⟨rfl, bb1⟩ := hp1
  have hG3 := hG1
  have hP3 : PW g ad1 122 S1 H := hQ1.1
  have hS := hQ1.2
  have hP2 : PW g ad2 20 S2 H := pw_kept hP2 hk1 hne
  refine lv_pop hx hb dL_law_1363 rfl ?_
  refine lv_aload_n hx hb dL_law_1364 rfl (lv_at hl 2 rfl) ?_
  refine lv_aload_n hx hb dL_law_1365 rfl (lv_at hl 0 rfl) ?_
  refine lv_iload_n hx hb dL_law_1366 rfl (lv_at hl 3 rfl) ?_
  refine lv_iconst (v := 1) hx hb dL_law_1367 (by decide) ?_
  refine lv_iadd hx hb dL_law_1368 ?_
  refine sb_at (P := fun z => W _ _ _ _ _ _ _ _ _ _ _ _ _ _ _ (F0 _ _ _ (.int z :: _))) (nI_add i 1) ?_
  refine va_sld hx hb hX hbl hbA hS (vp_in_nI (show i + 1 < L by omega) (by omega)) dL_law_1369 ?_
  refine sb_at (P := fun z => W _ _ _ _ _ _ _ _ _ _ _ _ _ _ _ (F0 _ _ _ (.int z :: _))) (show xs (nI (i + 1)).toNatClampNeg = xs (i + 1) by rw [nI_clamp (by omega)]) ?_
  refine lv_aload_n hx hb dL_law_1370 rfl (lv_at hl 0 rfl) ?_
  refine lv_iload_n hx hb dL_law_1371 rfl (lv_at hl 3 rfl) ?_
  refine lv_iconst (v := 2) hx hb dL_law_1372 (by decide) ?_
  refine lv_iadd hx hb dL_law_1373 ?_
  refine sb_at (P := fun z => W _ _ _ _ _ _ _ _ _ _ _ _ _ _ _ (F0 _ _ _ (.int z :: _))) (nI_add i 2) ?_
  refine va_sld hx hb hX hbl hbA hS (vp_in_nI (show i + 2 < L by omega) (by omega)) dL_law_1374 ?_
  refine sb_at (P := fun z => W _ _ _ _ _ _ _ _ _ _ _ _ _ _ _ (F0 _ _ _ (.int z :: _))) (show xs (nI (i + 2)).toNatClampNeg = xs (i + 2) by rw [nI_clamp (by omega)]) ?_
  refine lv_aload_n hx hb dL_law_1375 rfl (lv_at hl 0 rfl) ?_
  refine lv_iload_n hx hb dL_law_1376 rfl (lv_at hl 3 rfl) ?_
  refine lv_iconst (v := 3) hx hb dL_law_1377 (by decide) ?_
  refine lv_iadd hx hb dL_law_1378 ?_
  refine sb_at (P := fun z => W _ _ _ _ _ _ _ _ _ _ _ _ _ _ _ (F0 _ _ _ (.int z :: _))) (nI_add i 3) ?_
  refine va_sld hx hb hX hbl hbA hS (vp_in_nI (show i + 3 < L by omega) (by omega)) dL_law_1379 ?_
  refine sb_at (P := fun z => W _ _ _ _ _ _ _ _ _ _ _ _ _ _ _ (F0 _ _ _ (.int z :: _))) (show xs (nI (i + 3)).toNatClampNeg = xs (i + 3) by rw [nI_clamp (by omega)]) ?_
  obtain ⟨hI2, t0, t1, t2, t3, at0, at1, at2, at3, ht0, ht1, ht2, ht3⟩ := id hG2
  obtain ⟨_, _, _, _, _, _, _, _, _, _, _, _, _, _, _, _, _, _, _, cc2, _, _, _, _, _, _, _, _, _⟩ := invM_0 hI2
  refine xcVi E ⟨hD2, hA2⟩ (⟨hP2, hS⟩ : Hp g ad2 20 S2 (fun q : Nat => s.heap.size ≤ q) s.heap H locs) hml hl.1 0 (gX12_when_0 l g ad2 hD2 S2 hI2 (xs (i + 1)) (xs (i + 2)) (xs (i + 3)) (by omega) (by omega) (by omega) (by omega) (by omega)) mX12_when q2011 (by decide) cc2 rfl rfl ⟨(Nat.le_of_ble_eq_true rfl), (Nat.le_of_ble_eq_true rfl)⟩ ⟨(Nat.le_of_ble_eq_true rfl), (Nat.le_of_ble_eq_true rfl)⟩ (Nat.le_of_ble_eq_true rfl) rfl dL_law_1380 (fun r2 S4 H locs hp2 hQ2 hk2 => ?_)
  obtain ⟨hI4, o2, bb2⟩ := hp2
  have hG4 : GM g ad2 S4 := ⟨hI4, (by rw [o2 6 (by decide), o2 7 (by decide)]; exact t0), (by rw [o2 6 (by decide), o2 7 (by decide)]; exact t1), (by rw [o2 6 (by decide), o2 7 (by decide)]; exact t2), (by rw [o2 6 (by decide), o2 7 (by decide)]; exact t3), (at_tr at0 (o2 7 (by decide)) (o2 12 (by decide))), (at_tr at1 (o2 7 (by decide)) (o2 12 (by decide))), (at_tr at2 (o2 7 (by decide)) (o2 12 (by decide))), (at_tr at3 (o2 7 (by decide)) (o2 12 (by decide))), (ht_tr ht0 (o2 7 (by decide)) (o2 9 (by decide))), (ht_tr ht1 (o2 7 (by decide)) (o2 9 (by decide))), (ht_tr ht2 (o2 7 (by decide)) (o2 9 (by decide))), (ht_tr ht3 (o2 7 (by decide)) (o2 9 (by decide)))⟩
  have hS := hQ2.2
  have hP4 : PW g ad2 20 S4 H := hQ2.1
  have hP3 : PW g ad1 122 S1 H := pw_kept hP3 hk2 (fun i j hi hj e => hne j i hj hi e.symm)
  have hR4 : RR S1 S4 := rr_eq hR rfl rfl rfl (o2 13 (by decide)) (o2 1 (by decide)) (o2 2 (by decide))
  refine lv_pop hx hb dL_law_1383 rfl ?_
  refine lv_goto (tgt := 2159) hx hb dL_law_1384 (by decide) ?_
  exact K S1 S4 H locs ls hG3 hG4 hR4 hP3 hP4 hS hl
set_option maxHeartbeats 4000000 in
set_option maxRecDepth 100000 in
theorem law_case_39 {p : Program} {l : Launch} {e : Env} {s : State} {m : MethodId} {below : List Frame} {meth : Method} {c : Code} {b L : Nat} {xs : Nat → Int32} (C0 : lw_At p s m meth c b L xs) {g : GG} {tt : TT} {ad1 ad2 : Nat → Nat} (hK : KK g s) (hT : TW tt (fun q : Nat => s.heap.size ≤ q) s s.heap) (hD1 : Dj ad1 122) (hD2 : Dj ad2 20) (hA1 : ∀ i, i < 122 → (fun q : Nat => s.heap.size ≤ q) (ad1 i)) (hA2 : ∀ i, i < 20 → (fun q : Nat => s.heap.size ≤ q) (ad2 i)) (hne : ∀ i j, i < 122 → j < 20 → ad1 i ≠ ad2 j) {i : Nat} (hi : i + 6 ≤ L) (hL : L ≤ 3072) {S1 S2 : SS} (hG1 : GX g ad1 S1) (hG2 : GM g ad2 S2) (hR : RR S1 S2) {H : Heap} {locs : List Loc} (hP1 : PW g ad1 122 S1 H) (hP2 : PW g ad2 20 S2 H) (hS : va_S (fun q : Nat => s.heap.size ≤ q) s.heap H locs) {ls : Array Slot} (hl : lv_has ls 4 [(0, .ref b), (1, .ref (ad1 0)), (2, .ref (ad2 0)), (3, .int (nI i))]) (K : (∀ (S1 S2 : SS) (H : Heap) (locs : List Loc) (ls : Array Slot), GX g ad1 S1 → GM g ad2 S2 → RR S1 S2 → PW g ad1 122 S1 H → PW g ad2 20 S2 H → va_S (fun q : Nat => s.heap.size ≤ q) s.heap H locs → lv_has ls 4 [(0, .ref b), (1, .ref (ad1 0)), (2, .ref (ad2 0)), (3, .int (nI i))] → W p l e room_1 s m #[Value.ref b] below meth c H locs 142 12631 (lw_Z below #[Value.ref b] s) (F0 m 2159 ls []))) : W p l e room_1 s m #[Value.ref b] below meth c H locs 142 12631 (lw_Z below #[Value.ref b] s) (F0 m 1387 ls []) := by
  obtain ⟨hx, hb, hr, hml, hown, hts, hX, hbl, hlocks, hgv⟩ := id C0
  have hbA : ¬ (fun q : Nat => s.heap.size ≤ q) b := Nat.not_le.mpr hbl
  have E : Ev p s m #[Value.ref b] c cL_law "EbbWreckLaw" g := ⟨hx, hb, hown, fun w h => hts w (List.mem_filter.mp h).1, hK⟩
  refine lv_aload_n hx hb dL_law_1387 rfl (lv_at hl 1 rfl) ?_
  refine lv_aload_n hx hb dL_law_1388 rfl (lv_at hl 0 rfl) ?_
  refine lv_iload_n hx hb dL_law_1389 rfl (lv_at hl 3 rfl) ?_
  refine lv_iconst (v := 1) hx hb dL_law_1390 (by decide) ?_
  refine lv_iadd hx hb dL_law_1391 ?_
  refine sb_at (P := fun z => W _ _ _ _ _ _ _ _ _ _ _ _ _ _ _ (F0 _ _ _ (.int z :: _))) (nI_add i 1) ?_
  refine va_sld hx hb hX hbl hbA hS (vp_in_nI (show i + 1 < L by omega) (by omega)) dL_law_1392 ?_
  refine sb_at (P := fun z => W _ _ _ _ _ _ _ _ _ _ _ _ _ _ _ (F0 _ _ _ (.int z :: _))) (show xs (nI (i + 1)).toNatClampNeg = xs (i + 1) by rw [nI_clamp (by omega)]) ?_
  obtain ⟨hI1, r2, r39, r57, r75, ar2, ar39, ar57, ar75⟩ := id hG1
  obtain ⟨_, _, _, cc1, _⟩ := invX_0 hI1
  refine xcVi E ⟨hD1, hA1⟩ (⟨hP1, hS⟩ : Hp g ad1 122 S1 (fun q : Nat => s.heap.size ≤ q) s.heap H locs) hml hl.1 0 (gX11_fits_0 l g ad1 hD1 S1 hI1 (xs (i + 1)) (by omega) (by omega) (by omega)) mX11_fits q1191 (by decide) cc1 rfl rfl ⟨(Nat.le_of_ble_eq_true rfl), (Nat.le_of_ble_eq_true rfl)⟩ ⟨(Nat.le_of_ble_eq_true rfl), (Nat.le_of_ble_eq_true rfl)⟩ (Nat.le_of_ble_eq_true rfl) rfl dL_law_1393 (fun r1 S3 H locs hp1 hQ1 hk1 => ?_)
  obtain ⟨hI3, o1, bb1⟩ := hp1
  have hG3 : GX g ad1 S3 := ⟨hI3, (by rw [o1 2 (by decide)]; exact r2), (by rw [o1 39 (by decide)]; exact r39), (by rw [o1 57 (by decide)]; exact r57), (by rw [o1 75 (by decide)]; exact r75), (ar_tr ar2 (o1 16 (by decide)) (o1 17 (by decide)) (o1 18 (by decide)) (o1 19 (by decide))), (ar_tr ar39 (o1 53 (by decide)) (o1 54 (by decide)) (o1 55 (by decide)) (o1 56 (by decide))), (ar_tr ar57 (o1 71 (by decide)) (o1 72 (by decide)) (o1 73 (by decide)) (o1 74 (by decide))), (ar_tr ar75 (o1 89 (by decide)) (o1 90 (by decide)) (o1 91 (by decide)) (o1 92 (by decide)))⟩
  have hP3 : PW g ad1 122 S3 H := hQ1.1
  have hS := hQ1.2
  have hP2 : PW g ad2 20 S2 H := pw_kept hP2 hk1 hne
  refine lv_pop hx hb dL_law_1396 rfl ?_
  refine lv_aload_n hx hb dL_law_1397 rfl (lv_at hl 2 rfl) ?_
  refine lv_aload_n hx hb dL_law_1398 rfl (lv_at hl 0 rfl) ?_
  refine lv_iload_n hx hb dL_law_1399 rfl (lv_at hl 3 rfl) ?_
  refine lv_iconst (v := 1) hx hb dL_law_1400 (by decide) ?_
  refine lv_iadd hx hb dL_law_1401 ?_
  refine sb_at (P := fun z => W _ _ _ _ _ _ _ _ _ _ _ _ _ _ _ (F0 _ _ _ (.int z :: _))) (nI_add i 1) ?_
  refine va_sld hx hb hX hbl hbA hS (vp_in_nI (show i + 1 < L by omega) (by omega)) dL_law_1402 ?_
  refine sb_at (P := fun z => W _ _ _ _ _ _ _ _ _ _ _ _ _ _ _ (F0 _ _ _ (.int z :: _))) (show xs (nI (i + 1)).toNatClampNeg = xs (i + 1) by rw [nI_clamp (by omega)]) ?_
  obtain ⟨hI2, t0, t1, t2, t3, at0, at1, at2, at3, ht0, ht1, ht2, ht3⟩ := id hG2
  obtain ⟨_, _, _, _, _, _, _, _, _, _, _, _, _, _, _, _, _, _, _, cc2, _, _, _, _, _, _, _, _, _⟩ := invM_0 hI2
  refine xcVi E ⟨hD2, hA2⟩ (⟨hP2, hS⟩ : Hp g ad2 20 S2 (fun q : Nat => s.heap.size ≤ q) s.heap H locs) hml hl.1 0 (gX12_fits_0 l g ad2 hD2 S2 hI2 (xs (i + 1)) (by omega) (by omega) (by omega) (by omega) (by omega)) mX12_fits q2015 (by decide) cc2 rfl rfl ⟨(Nat.le_of_ble_eq_true rfl), (Nat.le_of_ble_eq_true rfl)⟩ ⟨(Nat.le_of_ble_eq_true rfl), (Nat.le_of_ble_eq_true rfl)⟩ (Nat.le_of_ble_eq_true rfl) rfl dL_law_1403 (fun r2 S4 H locs hp2 hQ2 hk2 => ?_)
  obtain ⟨hI4, o2⟩ := hp2
  have hG4 : GM g ad2 S4 := ⟨hI4, (by rw [o2 6 (by decide), o2 7 (by decide)]; exact t0), (by rw [o2 6 (by decide), o2 7 (by decide)]; exact t1), (by rw [o2 6 (by decide), o2 7 (by decide)]; exact t2), (by rw [o2 6 (by decide), o2 7 (by decide)]; exact t3), (at_tr at0 (o2 7 (by decide)) (o2 12 (by decide))), (at_tr at1 (o2 7 (by decide)) (o2 12 (by decide))), (at_tr at2 (o2 7 (by decide)) (o2 12 (by decide))), (at_tr at3 (o2 7 (by decide)) (o2 12 (by decide))), (ht_tr ht0 (o2 7 (by decide)) (o2 9 (by decide))), (ht_tr ht1 (o2 7 (by decide)) (o2 9 (by decide))), (ht_tr ht2 (o2 7 (by decide)) (o2 9 (by decide))), (ht_tr ht3 (o2 7 (by decide)) (o2 9 (by decide)))⟩
  have hS := hQ2.2
  have hP4 : PW g ad2 20 S4 H := hQ2.1
  have hP3 : PW g ad1 122 S3 H := pw_kept hP3 hk2 (fun i j hi hj e => hne j i hj hi e.symm)
  have hR4 : RR S3 S4 := rr_eq hR (o1 93 (by decide)) (o1 117 (by decide)) (o1 118 (by decide)) (o2 13 (by decide)) (o2 1 (by decide)) (o2 2 (by decide))
  refine lv_pop hx hb dL_law_1406 rfl ?_
  refine lv_goto (tgt := 2159) hx hb dL_law_1407 (by decide) ?_
  exact K S3 S4 H locs ls hG3 hG4 hR4 hP3 hP4 hS hl
set_option maxHeartbeats 4000000 in
set_option maxRecDepth 100000 in
theorem law_case_40 {p : Program} {l : Launch} {e : Env} {s : State} {m : MethodId} {below : List Frame} {meth : Method} {c : Code} {b L : Nat} {xs : Nat → Int32} (C0 : lw_At p s m meth c b L xs) {g : GG} {tt : TT} {ad1 ad2 : Nat → Nat} (hK : KK g s) (hT : TW tt (fun q : Nat => s.heap.size ≤ q) s s.heap) (hD1 : Dj ad1 122) (hD2 : Dj ad2 20) (hA1 : ∀ i, i < 122 → (fun q : Nat => s.heap.size ≤ q) (ad1 i)) (hA2 : ∀ i, i < 20 → (fun q : Nat => s.heap.size ≤ q) (ad2 i)) (hne : ∀ i j, i < 122 → j < 20 → ad1 i ≠ ad2 j) {i : Nat} (hi : i + 6 ≤ L) (hL : L ≤ 3072) {S1 S2 : SS} (hG1 : GX g ad1 S1) (hG2 : GM g ad2 S2) (hR : RR S1 S2) {H : Heap} {locs : List Loc} (hP1 : PW g ad1 122 S1 H) (hP2 : PW g ad2 20 S2 H) (hS : va_S (fun q : Nat => s.heap.size ≤ q) s.heap H locs) {ls : Array Slot} (hl : lv_has ls 4 [(0, .ref b), (1, .ref (ad1 0)), (2, .ref (ad2 0)), (3, .int (nI i))]) (K : (∀ (S1 S2 : SS) (H : Heap) (locs : List Loc) (ls : Array Slot), GX g ad1 S1 → GM g ad2 S2 → RR S1 S2 → PW g ad1 122 S1 H → PW g ad2 20 S2 H → va_S (fun q : Nat => s.heap.size ≤ q) s.heap H locs → lv_has ls 4 [(0, .ref b), (1, .ref (ad1 0)), (2, .ref (ad2 0)), (3, .int (nI i))] → W p l e room_1 s m #[Value.ref b] below meth c H locs 142 12631 (lw_Z below #[Value.ref b] s) (F0 m 2159 ls []))) : W p l e room_1 s m #[Value.ref b] below meth c H locs 142 12631 (lw_Z below #[Value.ref b] s) (F0 m 1410 ls []) := by
  obtain ⟨hx, hb, hr, hml, hown, hts, hX, hbl, hlocks, hgv⟩ := id C0
  have hbA : ¬ (fun q : Nat => s.heap.size ≤ q) b := Nat.not_le.mpr hbl
  have E : Ev p s m #[Value.ref b] c cL_law "EbbWreckLaw" g := ⟨hx, hb, hown, fun w h => hts w (List.mem_filter.mp h).1, hK⟩
  refine lv_aload_n hx hb dL_law_1410 rfl (lv_at hl 1 rfl) ?_
  refine lv_aload_n hx hb dL_law_1411 rfl (lv_at hl 0 rfl) ?_
  refine lv_iload_n hx hb dL_law_1412 rfl (lv_at hl 3 rfl) ?_
  refine lv_iconst (v := 1) hx hb dL_law_1413 (by decide) ?_
  refine lv_iadd hx hb dL_law_1414 ?_
  refine sb_at (P := fun z => W _ _ _ _ _ _ _ _ _ _ _ _ _ _ _ (F0 _ _ _ (.int z :: _))) (nI_add i 1) ?_
  refine va_sld hx hb hX hbl hbA hS (vp_in_nI (show i + 1 < L by omega) (by omega)) dL_law_1415 ?_
  refine sb_at (P := fun z => W _ _ _ _ _ _ _ _ _ _ _ _ _ _ _ (F0 _ _ _ (.int z :: _))) (show xs (nI (i + 1)).toNatClampNeg = xs (i + 1) by rw [nI_clamp (by omega)]) ?_
  refine lv_aload_n hx hb dL_law_1416 rfl (lv_at hl 0 rfl) ?_
  refine lv_iload_n hx hb dL_law_1417 rfl (lv_at hl 3 rfl) ?_
  refine lv_iconst (v := 2) hx hb dL_law_1418 (by decide) ?_
  refine lv_iadd hx hb dL_law_1419 ?_
  refine sb_at (P := fun z => W _ _ _ _ _ _ _ _ _ _ _ _ _ _ _ (F0 _ _ _ (.int z :: _))) (nI_add i 2) ?_
  refine va_sld hx hb hX hbl hbA hS (vp_in_nI (show i + 2 < L by omega) (by omega)) dL_law_1420 ?_
  refine sb_at (P := fun z => W _ _ _ _ _ _ _ _ _ _ _ _ _ _ _ (F0 _ _ _ (.int z :: _))) (show xs (nI (i + 2)).toNatClampNeg = xs (i + 2) by rw [nI_clamp (by omega)]) ?_
  obtain ⟨hI1, r2, r39, r57, r75, ar2, ar39, ar57, ar75⟩ := id hG1
  obtain ⟨_, _, _, cc1, _⟩ := invX_0 hI1
  refine xcVi E ⟨hD1, hA1⟩ (⟨hP1, hS⟩ : Hp g ad1 122 S1 (fun q : Nat => s.heap.size ≤ q) s.heap H locs) hml hl.1 0 (gX11_fit_0 l g ad1 hD1 S1 hI1 (xs (i + 1)) (xs (i + 2)) (by omega) (by omega) (by omega)) mX11_fit q1237 (by decide) cc1 rfl rfl ⟨(Nat.le_of_ble_eq_true rfl), (Nat.le_of_ble_eq_true rfl)⟩ ⟨(Nat.le_of_ble_eq_true rfl), (Nat.le_of_ble_eq_true rfl)⟩ (Nat.le_of_ble_eq_true rfl) rfl dL_law_1421 (fun r1 S3 H locs hp1 hQ1 hk1 => ?_)
  obtain ⟨hI3, o1⟩ := hp1
  have hG3 : GX g ad1 S3 := ⟨hI3, (by rw [o1 2 (by decide)]; exact r2), (by rw [o1 39 (by decide)]; exact r39), (by rw [o1 57 (by decide)]; exact r57), (by rw [o1 75 (by decide)]; exact r75), (ar_tr ar2 (o1 16 (by decide)) (o1 17 (by decide)) (o1 18 (by decide)) (o1 19 (by decide))), (ar_tr ar39 (o1 53 (by decide)) (o1 54 (by decide)) (o1 55 (by decide)) (o1 56 (by decide))), (ar_tr ar57 (o1 71 (by decide)) (o1 72 (by decide)) (o1 73 (by decide)) (o1 74 (by decide))), (ar_tr ar75 (o1 89 (by decide)) (o1 90 (by decide)) (o1 91 (by decide)) (o1 92 (by decide)))⟩
  have hP3 : PW g ad1 122 S3 H := hQ1.1
  have hS := hQ1.2
  have hP2 : PW g ad2 20 S2 H := pw_kept hP2 hk1 hne
  refine lv_pop hx hb dL_law_1424 rfl ?_
  refine lv_aload_n hx hb dL_law_1425 rfl (lv_at hl 2 rfl) ?_
  refine lv_aload_n hx hb dL_law_1426 rfl (lv_at hl 0 rfl) ?_
  refine lv_iload_n hx hb dL_law_1427 rfl (lv_at hl 3 rfl) ?_
  refine lv_iconst (v := 1) hx hb dL_law_1428 (by decide) ?_
  refine lv_iadd hx hb dL_law_1429 ?_
  refine sb_at (P := fun z => W _ _ _ _ _ _ _ _ _ _ _ _ _ _ _ (F0 _ _ _ (.int z :: _))) (nI_add i 1) ?_
  refine va_sld hx hb hX hbl hbA hS (vp_in_nI (show i + 1 < L by omega) (by omega)) dL_law_1430 ?_
  refine sb_at (P := fun z => W _ _ _ _ _ _ _ _ _ _ _ _ _ _ _ (F0 _ _ _ (.int z :: _))) (show xs (nI (i + 1)).toNatClampNeg = xs (i + 1) by rw [nI_clamp (by omega)]) ?_
  refine lv_aload_n hx hb dL_law_1431 rfl (lv_at hl 0 rfl) ?_
  refine lv_iload_n hx hb dL_law_1432 rfl (lv_at hl 3 rfl) ?_
  refine lv_iconst (v := 2) hx hb dL_law_1433 (by decide) ?_
  refine lv_iadd hx hb dL_law_1434 ?_
  refine sb_at (P := fun z => W _ _ _ _ _ _ _ _ _ _ _ _ _ _ _ (F0 _ _ _ (.int z :: _))) (nI_add i 2) ?_
  refine va_sld hx hb hX hbl hbA hS (vp_in_nI (show i + 2 < L by omega) (by omega)) dL_law_1435 ?_
  refine sb_at (P := fun z => W _ _ _ _ _ _ _ _ _ _ _ _ _ _ _ (F0 _ _ _ (.int z :: _))) (show xs (nI (i + 2)).toNatClampNeg = xs (i + 2) by rw [nI_clamp (by omega)]) ?_
  obtain ⟨hI2, t0, t1, t2, t3, at0, at1, at2, at3, ht0, ht1, ht2, ht3⟩ := id hG2
  obtain ⟨_, _, _, _, _, _, _, _, _, _, _, _, _, _, _, _, _, _, _, cc2, _, _, _, _, _, _, _, _, _⟩ := invM_0 hI2
  refine xcVi E ⟨hD2, hA2⟩ (⟨hP2, hS⟩ : Hp g ad2 20 S2 (fun q : Nat => s.heap.size ≤ q) s.heap H locs) hml hl.1 0 (gX12_fit_0 l g ad2 hD2 S2 hI2 (xs (i + 1)) (xs (i + 2)) (by omega) (by omega) (by omega) (by omega) (by omega)) mX12_fit q2035 (by decide) cc2 rfl rfl ⟨(Nat.le_of_ble_eq_true rfl), (Nat.le_of_ble_eq_true rfl)⟩ ⟨(Nat.le_of_ble_eq_true rfl), (Nat.le_of_ble_eq_true rfl)⟩ (Nat.le_of_ble_eq_true rfl) rfl dL_law_1436 (fun r2 S4 H locs hp2 hQ2 hk2 => ?_)
  obtain ⟨hI4, o2, bb2⟩ := hp2
  have hG4 : GM g ad2 S4 := ⟨hI4, (by rw [o2 6 (by decide), o2 7 (by decide)]; exact t0), (by rw [o2 6 (by decide), o2 7 (by decide)]; exact t1), (by rw [o2 6 (by decide), o2 7 (by decide)]; exact t2), (by rw [o2 6 (by decide), o2 7 (by decide)]; exact t3), (at_tr at0 (o2 7 (by decide)) (o2 12 (by decide))), (at_tr at1 (o2 7 (by decide)) (o2 12 (by decide))), (at_tr at2 (o2 7 (by decide)) (o2 12 (by decide))), (at_tr at3 (o2 7 (by decide)) (o2 12 (by decide))), (ht_tr ht0 (o2 7 (by decide)) (o2 9 (by decide))), (ht_tr ht1 (o2 7 (by decide)) (o2 9 (by decide))), (ht_tr ht2 (o2 7 (by decide)) (o2 9 (by decide))), (ht_tr ht3 (o2 7 (by decide)) (o2 9 (by decide)))⟩
  have hS := hQ2.2
  have hP4 : PW g ad2 20 S4 H := hQ2.1
  have hP3 : PW g ad1 122 S3 H := pw_kept hP3 hk2 (fun i j hi hj e => hne j i hj hi e.symm)
  have hR4 : RR S3 S4 := rr_eq hR (o1 93 (by decide)) (o1 117 (by decide)) (o1 118 (by decide)) (o2 13 (by decide)) (o2 1 (by decide)) (o2 2 (by decide))
  refine lv_pop hx hb dL_law_1439 rfl ?_
  refine lv_goto (tgt := 2159) hx hb dL_law_1440 (by decide) ?_
  exact K S3 S4 H locs ls hG3 hG4 hR4 hP3 hP4 hS hl
set_option maxHeartbeats 4000000 in
set_option maxRecDepth 100000 in
theorem law_case_41 {p : Program} {l : Launch} {e : Env} {s : State} {m : MethodId} {below : List Frame} {meth : Method} {c : Code} {b L : Nat} {xs : Nat → Int32} (C0 : lw_At p s m meth c b L xs) {g : GG} {tt : TT} {ad1 ad2 : Nat → Nat} (hK : KK g s) (hT : TW tt (fun q : Nat => s.heap.size ≤ q) s s.heap) (hD1 : Dj ad1 122) (hD2 : Dj ad2 20) (hA1 : ∀ i, i < 122 → (fun q : Nat => s.heap.size ≤ q) (ad1 i)) (hA2 : ∀ i, i < 20 → (fun q : Nat => s.heap.size ≤ q) (ad2 i)) (hne : ∀ i j, i < 122 → j < 20 → ad1 i ≠ ad2 j) {i : Nat} (hi : i + 6 ≤ L) (hL : L ≤ 3072) {S1 S2 : SS} (hG1 : GX g ad1 S1) (hG2 : GM g ad2 S2) (hR : RR S1 S2) {H : Heap} {locs : List Loc} (hP1 : PW g ad1 122 S1 H) (hP2 : PW g ad2 20 S2 H) (hS : va_S (fun q : Nat => s.heap.size ≤ q) s.heap H locs) {ls : Array Slot} (hl : lv_has ls 4 [(0, .ref b), (1, .ref (ad1 0)), (2, .ref (ad2 0)), (3, .int (nI i))]) (K : (∀ (S1 S2 : SS) (H : Heap) (locs : List Loc) (ls : Array Slot), GX g ad1 S1 → GM g ad2 S2 → RR S1 S2 → PW g ad1 122 S1 H → PW g ad2 20 S2 H → va_S (fun q : Nat => s.heap.size ≤ q) s.heap H locs → lv_has ls 4 [(0, .ref b), (1, .ref (ad1 0)), (2, .ref (ad2 0)), (3, .int (nI i))] → W p l e room_1 s m #[Value.ref b] below meth c H locs 142 12631 (lw_Z below #[Value.ref b] s) (F0 m 2159 ls []))) : W p l e room_1 s m #[Value.ref b] below meth c H locs 142 12631 (lw_Z below #[Value.ref b] s) (F0 m 1443 ls []) := by
  obtain ⟨hx, hb, hr, hml, hown, hts, hX, hbl, hlocks, hgv⟩ := id C0
  have hbA : ¬ (fun q : Nat => s.heap.size ≤ q) b := Nat.not_le.mpr hbl
  have E : Ev p s m #[Value.ref b] c cL_law "EbbWreckLaw" g := ⟨hx, hb, hown, fun w h => hts w (List.mem_filter.mp h).1, hK⟩
  refine lv_aload_n hx hb dL_law_1443 rfl (lv_at hl 1 rfl) ?_
  refine lv_aload_n hx hb dL_law_1444 rfl (lv_at hl 0 rfl) ?_
  refine lv_iload_n hx hb dL_law_1445 rfl (lv_at hl 3 rfl) ?_
  refine lv_iconst (v := 1) hx hb dL_law_1446 (by decide) ?_
  refine lv_iadd hx hb dL_law_1447 ?_
  refine sb_at (P := fun z => W _ _ _ _ _ _ _ _ _ _ _ _ _ _ _ (F0 _ _ _ (.int z :: _))) (nI_add i 1) ?_
  refine va_sld hx hb hX hbl hbA hS (vp_in_nI (show i + 1 < L by omega) (by omega)) dL_law_1448 ?_
  refine sb_at (P := fun z => W _ _ _ _ _ _ _ _ _ _ _ _ _ _ _ (F0 _ _ _ (.int z :: _))) (show xs (nI (i + 1)).toNatClampNeg = xs (i + 1) by rw [nI_clamp (by omega)]) ?_
  obtain ⟨hI1, r2, r39, r57, r75, ar2, ar39, ar57, ar75⟩ := id hG1
  obtain ⟨_, _, _, cc1, _⟩ := invX_0 hI1
  refine xcVi E ⟨hD1, hA1⟩ (⟨hP1, hS⟩ : Hp g ad1 122 S1 (fun q : Nat => s.heap.size ≤ q) s.heap H locs) hml hl.1 0 (gX11_ask_0 l g ad1 hD1 S1 hI1 (xs (i + 1)) (by omega) (by omega) (by omega)) mX11_ask q1253 (by decide) cc1 rfl rfl ⟨(Nat.le_of_ble_eq_true rfl), (Nat.le_of_ble_eq_true rfl)⟩ ⟨(Nat.le_of_ble_eq_true rfl), (Nat.le_of_ble_eq_true rfl)⟩ (Nat.le_of_ble_eq_true rfl) rfl dL_law_1449 (fun r1 S3 H locs hp1 hQ1 hk1 => ?_)
  obtain ⟨hI3, o1, bb1⟩ := hp1
  have hG3 : GX g ad1 S3 := ⟨hI3, (by rw [o1 2 (by decide)]; exact r2), (by rw [o1 39 (by decide)]; exact r39), (by rw [o1 57 (by decide)]; exact r57), (by rw [o1 75 (by decide)]; exact r75), (ar_tr ar2 (o1 16 (by decide)) (o1 17 (by decide)) (o1 18 (by decide)) (o1 19 (by decide))), (ar_tr ar39 (o1 53 (by decide)) (o1 54 (by decide)) (o1 55 (by decide)) (o1 56 (by decide))), (ar_tr ar57 (o1 71 (by decide)) (o1 72 (by decide)) (o1 73 (by decide)) (o1 74 (by decide))), (ar_tr ar75 (o1 89 (by decide)) (o1 90 (by decide)) (o1 91 (by decide)) (o1 92 (by decide)))⟩
  have hP3 : PW g ad1 122 S3 H := hQ1.1
  have hS := hQ1.2
  have hP2 : PW g ad2 20 S2 H := pw_kept hP2 hk1 hne
  refine lv_pop hx hb dL_law_1452 rfl ?_
  refine lv_aload_n hx hb dL_law_1453 rfl (lv_at hl 2 rfl) ?_
  refine lv_aload_n hx hb dL_law_1454 rfl (lv_at hl 0 rfl) ?_
  refine lv_iload_n hx hb dL_law_1455 rfl (lv_at hl 3 rfl) ?_
  refine lv_iconst (v := 1) hx hb dL_law_1456 (by decide) ?_
  refine lv_iadd hx hb dL_law_1457 ?_
  refine sb_at (P := fun z => W _ _ _ _ _ _ _ _ _ _ _ _ _ _ _ (F0 _ _ _ (.int z :: _))) (nI_add i 1) ?_
  refine va_sld hx hb hX hbl hbA hS (vp_in_nI (show i + 1 < L by omega) (by omega)) dL_law_1458 ?_
  refine sb_at (P := fun z => W _ _ _ _ _ _ _ _ _ _ _ _ _ _ _ (F0 _ _ _ (.int z :: _))) (show xs (nI (i + 1)).toNatClampNeg = xs (i + 1) by rw [nI_clamp (by omega)]) ?_
  obtain ⟨hI2, t0, t1, t2, t3, at0, at1, at2, at3, ht0, ht1, ht2, ht3⟩ := id hG2
  obtain ⟨_, _, _, _, _, _, _, _, _, _, _, _, _, _, _, _, _, _, _, cc2, _, _, _, _, _, _, _, _, _⟩ := invM_0 hI2
  refine xcVi E ⟨hD2, hA2⟩ (⟨hP2, hS⟩ : Hp g ad2 20 S2 (fun q : Nat => s.heap.size ≤ q) s.heap H locs) hml hl.1 0 (gX12_ask_0 l g ad2 hD2 S2 hI2 (xs (i + 1)) (by omega) (by omega) (by omega) (by omega) (by omega)) mX12_ask q2042 (by decide) cc2 rfl rfl ⟨(Nat.le_of_ble_eq_true rfl), (Nat.le_of_ble_eq_true rfl)⟩ ⟨(Nat.le_of_ble_eq_true rfl), (Nat.le_of_ble_eq_true rfl)⟩ (Nat.le_of_ble_eq_true rfl) rfl dL_law_1459 (fun r2 S4 H locs hp2 hQ2 hk2 => ?_)
  obtain ⟨hI4, o2⟩ := hp2
  have hG4 : GM g ad2 S4 := ⟨hI4, (by rw [o2 6 (by decide), o2 7 (by decide)]; exact t0), (by rw [o2 6 (by decide), o2 7 (by decide)]; exact t1), (by rw [o2 6 (by decide), o2 7 (by decide)]; exact t2), (by rw [o2 6 (by decide), o2 7 (by decide)]; exact t3), (at_tr at0 (o2 7 (by decide)) (o2 12 (by decide))), (at_tr at1 (o2 7 (by decide)) (o2 12 (by decide))), (at_tr at2 (o2 7 (by decide)) (o2 12 (by decide))), (at_tr at3 (o2 7 (by decide)) (o2 12 (by decide))), (ht_tr ht0 (o2 7 (by decide)) (o2 9 (by decide))), (ht_tr ht1 (o2 7 (by decide)) (o2 9 (by decide))), (ht_tr ht2 (o2 7 (by decide)) (o2 9 (by decide))), (ht_tr ht3 (o2 7 (by decide)) (o2 9 (by decide)))⟩
  have hS := hQ2.2
  have hP4 : PW g ad2 20 S4 H := hQ2.1
  have hP3 : PW g ad1 122 S3 H := pw_kept hP3 hk2 (fun i j hi hj e => hne j i hj hi e.symm)
  have hR4 : RR S3 S4 := rr_eq hR (o1 93 (by decide)) (o1 117 (by decide)) (o1 118 (by decide)) (o2 13 (by decide)) (o2 1 (by decide)) (o2 2 (by decide))
  refine lv_pop hx hb dL_law_1462 rfl ?_
  refine lv_goto (tgt := 2159) hx hb dL_law_1463 (by decide) ?_
  exact K S3 S4 H locs ls hG3 hG4 hR4 hP3 hP4 hS hl
set_option maxHeartbeats 4000000 in
set_option maxRecDepth 100000 in
theorem law_case_42 {p : Program} {l : Launch} {e : Env} {s : State} {m : MethodId} {below : List Frame} {meth : Method} {c : Code} {b L : Nat} {xs : Nat → Int32} (C0 : lw_At p s m meth c b L xs) {g : GG} {tt : TT} {ad1 ad2 : Nat → Nat} (hK : KK g s) (hT : TW tt (fun q : Nat => s.heap.size ≤ q) s s.heap) (hD1 : Dj ad1 122) (hD2 : Dj ad2 20) (hA1 : ∀ i, i < 122 → (fun q : Nat => s.heap.size ≤ q) (ad1 i)) (hA2 : ∀ i, i < 20 → (fun q : Nat => s.heap.size ≤ q) (ad2 i)) (hne : ∀ i j, i < 122 → j < 20 → ad1 i ≠ ad2 j) {i : Nat} (hi : i + 6 ≤ L) (hL : L ≤ 3072) {S1 S2 : SS} (hG1 : GX g ad1 S1) (hG2 : GM g ad2 S2) (hR : RR S1 S2) {H : Heap} {locs : List Loc} (hP1 : PW g ad1 122 S1 H) (hP2 : PW g ad2 20 S2 H) (hS : va_S (fun q : Nat => s.heap.size ≤ q) s.heap H locs) {ls : Array Slot} (hl : lv_has ls 4 [(0, .ref b), (1, .ref (ad1 0)), (2, .ref (ad2 0)), (3, .int (nI i))]) (K : (∀ (S1 S2 : SS) (H : Heap) (locs : List Loc) (ls : Array Slot), GX g ad1 S1 → GM g ad2 S2 → RR S1 S2 → PW g ad1 122 S1 H → PW g ad2 20 S2 H → va_S (fun q : Nat => s.heap.size ≤ q) s.heap H locs → lv_has ls 4 [(0, .ref b), (1, .ref (ad1 0)), (2, .ref (ad2 0)), (3, .int (nI i))] → W p l e room_1 s m #[Value.ref b] below meth c H locs 142 12631 (lw_Z below #[Value.ref b] s) (F0 m 2159 ls []))) : W p l e room_1 s m #[Value.ref b] below meth c H locs 142 12631 (lw_Z below #[Value.ref b] s) (F0 m 1466 ls []) := by
  obtain ⟨hx, hb, hr, hml, hown, hts, hX, hbl, hlocks, hgv⟩ := id C0
  have hbA : ¬ (fun q : Nat => s.heap.size ≤ q) b := Nat.not_le.mpr hbl
  have E : Ev p s m #[Value.ref b] c cL_law "EbbWreckLaw" g := ⟨hx, hb, hown, fun w h => hts w (List.mem_filter.mp h).1, hK⟩
  refine lv_aload_n hx hb dL_law_1466 rfl (lv_at hl 1 rfl) ?_
  refine lv_aload_n hx hb dL_law_1467 rfl (lv_at hl 0 rfl) ?_
  refine lv_iload_n hx hb dL_law_1468 rfl (lv_at hl 3 rfl) ?_
  refine lv_iconst (v := 1) hx hb dL_law_1469 (by decide) ?_
  refine lv_iadd hx hb dL_law_1470 ?_
  refine sb_at (P := fun z => W _ _ _ _ _ _ _ _ _ _ _ _ _ _ _ (F0 _ _ _ (.int z :: _))) (nI_add i 1) ?_
  refine va_sld hx hb hX hbl hbA hS (vp_in_nI (show i + 1 < L by omega) (by omega)) dL_law_1471 ?_
  refine sb_at (P := fun z => W _ _ _ _ _ _ _ _ _ _ _ _ _ _ _ (F0 _ _ _ (.int z :: _))) (show xs (nI (i + 1)).toNatClampNeg = xs (i + 1) by rw [nI_clamp (by omega)]) ?_
  obtain ⟨hI1, r2, r39, r57, r75, ar2, ar39, ar57, ar75⟩ := id hG1
  obtain ⟨_, _, _, cc1, _⟩ := invX_0 hI1
  refine xcVi E ⟨hD1, hA1⟩ (⟨hP1, hS⟩ : Hp g ad1 122 S1 (fun q : Nat => s.heap.size ≤ q) s.heap H locs) hml hl.1 0 (gX11_leaves_0 l g ad1 hD1 S1 hI1 (xs (i + 1)) (by omega) (by omega) (by omega)) mX11_leaves q1267 (by decide) cc1 rfl rfl ⟨(Nat.le_of_ble_eq_true rfl), (Nat.le_of_ble_eq_true rfl)⟩ ⟨(Nat.le_of_ble_eq_true rfl), (Nat.le_of_ble_eq_true rfl)⟩ (Nat.le_of_ble_eq_true rfl) rfl dL_law_1472 (fun r1 S3 H locs hp1 hQ1 hk1 => ?_)
  obtain ⟨hI3, o1⟩ := hp1
  have hG3 : GX g ad1 S3 := ⟨hI3, (by rw [o1 2 (by decide)]; exact r2), (by rw [o1 39 (by decide)]; exact r39), (by rw [o1 57 (by decide)]; exact r57), (by rw [o1 75 (by decide)]; exact r75), (ar_tr ar2 (o1 16 (by decide)) (o1 17 (by decide)) (o1 18 (by decide)) (o1 19 (by decide))), (ar_tr ar39 (o1 53 (by decide)) (o1 54 (by decide)) (o1 55 (by decide)) (o1 56 (by decide))), (ar_tr ar57 (o1 71 (by decide)) (o1 72 (by decide)) (o1 73 (by decide)) (o1 74 (by decide))), (ar_tr ar75 (o1 89 (by decide)) (o1 90 (by decide)) (o1 91 (by decide)) (o1 92 (by decide)))⟩
  have hP3 : PW g ad1 122 S3 H := hQ1.1
  have hS := hQ1.2
  have hP2 : PW g ad2 20 S2 H := pw_kept hP2 hk1 hne
  refine lv_pop hx hb dL_law_1475 rfl ?_
  refine lv_aload_n hx hb dL_law_1476 rfl (lv_at hl 2 rfl) ?_
  refine lv_aload_n hx hb dL_law_1477 rfl (lv_at hl 0 rfl) ?_
  refine lv_iload_n hx hb dL_law_1478 rfl (lv_at hl 3 rfl) ?_
  refine lv_iconst (v := 1) hx hb dL_law_1479 (by decide) ?_
  refine lv_iadd hx hb dL_law_1480 ?_
  refine sb_at (P := fun z => W _ _ _ _ _ _ _ _ _ _ _ _ _ _ _ (F0 _ _ _ (.int z :: _))) (nI_add i 1) ?_
  refine va_sld hx hb hX hbl hbA hS (vp_in_nI (show i + 1 < L by omega) (by omega)) dL_law_1481 ?_
  refine sb_at (P := fun z => W _ _ _ _ _ _ _ _ _ _ _ _ _ _ _ (F0 _ _ _ (.int z :: _))) (show xs (nI (i + 1)).toNatClampNeg = xs (i + 1) by rw [nI_clamp (by omega)]) ?_
  obtain ⟨hI2, t0, t1, t2, t3, at0, at1, at2, at3, ht0, ht1, ht2, ht3⟩ := id hG2
  obtain ⟨_, _, _, _, _, _, _, _, _, _, _, _, _, _, _, _, _, _, _, cc2, _, _, _, _, _, _, _, _, _⟩ := invM_0 hI2
  refine xcVi E ⟨hD2, hA2⟩ (⟨hP2, hS⟩ : Hp g ad2 20 S2 (fun q : Nat => s.heap.size ≤ q) s.heap H locs) hml hl.1 0 (gX12_leaves_0 l g ad2 hD2 S2 hI2 (xs (i + 1)) (by omega) (by omega) (by omega) (by omega) (by omega)) mX12_leaves q2050 (by decide) cc2 rfl rfl ⟨(Nat.le_of_ble_eq_true rfl), (Nat.le_of_ble_eq_true rfl)⟩ ⟨(Nat.le_of_ble_eq_true rfl), (Nat.le_of_ble_eq_true rfl)⟩ (Nat.le_of_ble_eq_true rfl) rfl dL_law_1482 (fun r2 S4 H locs hp2 hQ2 hk2 => ?_)
  obtain ⟨hI4, o2⟩ := hp2
  have hG4 : GM g ad2 S4 := ⟨hI4, (by rw [o2 6 (by decide), o2 7 (by decide)]; exact t0), (by rw [o2 6 (by decide), o2 7 (by decide)]; exact t1), (by rw [o2 6 (by decide), o2 7 (by decide)]; exact t2), (by rw [o2 6 (by decide), o2 7 (by decide)]; exact t3), (at_tr at0 (o2 7 (by decide)) (o2 12 (by decide))), (at_tr at1 (o2 7 (by decide)) (o2 12 (by decide))), (at_tr at2 (o2 7 (by decide)) (o2 12 (by decide))), (at_tr at3 (o2 7 (by decide)) (o2 12 (by decide))), (ht_tr ht0 (o2 7 (by decide)) (o2 9 (by decide))), (ht_tr ht1 (o2 7 (by decide)) (o2 9 (by decide))), (ht_tr ht2 (o2 7 (by decide)) (o2 9 (by decide))), (ht_tr ht3 (o2 7 (by decide)) (o2 9 (by decide)))⟩
  have hS := hQ2.2
  have hP4 : PW g ad2 20 S4 H := hQ2.1
  have hP3 : PW g ad1 122 S3 H := pw_kept hP3 hk2 (fun i j hi hj e => hne j i hj hi e.symm)
  have hR4 : RR S3 S4 := rr_eq hR (o1 93 (by decide)) (o1 117 (by decide)) (o1 118 (by decide)) (o2 13 (by decide)) (o2 1 (by decide)) (o2 2 (by decide))
  refine lv_pop hx hb dL_law_1485 rfl ?_
  refine lv_goto (tgt := 2159) hx hb dL_law_1486 (by decide) ?_
  exact K S3 S4 H locs ls hG3 hG4 hR4 hP3 hP4 hS hl
set_option maxHeartbeats 4000000 in
set_option maxRecDepth 100000 in
theorem law_case_43 {p : Program} {l : Launch} {e : Env} {s : State} {m : MethodId} {below : List Frame} {meth : Method} {c : Code} {b L : Nat} {xs : Nat → Int32} (C0 : lw_At p s m meth c b L xs) {g : GG} {tt : TT} {ad1 ad2 : Nat → Nat} (hK : KK g s) (hT : TW tt (fun q : Nat => s.heap.size ≤ q) s s.heap) (hD1 : Dj ad1 122) (hD2 : Dj ad2 20) (hA1 : ∀ i, i < 122 → (fun q : Nat => s.heap.size ≤ q) (ad1 i)) (hA2 : ∀ i, i < 20 → (fun q : Nat => s.heap.size ≤ q) (ad2 i)) (hne : ∀ i j, i < 122 → j < 20 → ad1 i ≠ ad2 j) {i : Nat} (hi : i + 6 ≤ L) (hL : L ≤ 3072) {S1 S2 : SS} (hG1 : GX g ad1 S1) (hG2 : GM g ad2 S2) (hR : RR S1 S2) {H : Heap} {locs : List Loc} (hP1 : PW g ad1 122 S1 H) (hP2 : PW g ad2 20 S2 H) (hS : va_S (fun q : Nat => s.heap.size ≤ q) s.heap H locs) {ls : Array Slot} (hl : lv_has ls 4 [(0, .ref b), (1, .ref (ad1 0)), (2, .ref (ad2 0)), (3, .int (nI i))]) (K : (∀ (S1 S2 : SS) (H : Heap) (locs : List Loc) (ls : Array Slot), GX g ad1 S1 → GM g ad2 S2 → RR S1 S2 → PW g ad1 122 S1 H → PW g ad2 20 S2 H → va_S (fun q : Nat => s.heap.size ≤ q) s.heap H locs → lv_has ls 4 [(0, .ref b), (1, .ref (ad1 0)), (2, .ref (ad2 0)), (3, .int (nI i))] → W p l e room_1 s m #[Value.ref b] below meth c H locs 142 12631 (lw_Z below #[Value.ref b] s) (F0 m 2159 ls []))) : W p l e room_1 s m #[Value.ref b] below meth c H locs 142 12631 (lw_Z below #[Value.ref b] s) (F0 m 1489 ls []) := by
  obtain ⟨hx, hb, hr, hml, hown, hts, hX, hbl, hlocks, hgv⟩ := id C0
  have hbA : ¬ (fun q : Nat => s.heap.size ≤ q) b := Nat.not_le.mpr hbl
  have E : Ev p s m #[Value.ref b] c cL_law "EbbWreckLaw" g := ⟨hx, hb, hown, fun w h => hts w (List.mem_filter.mp h).1, hK⟩
  refine lv_aload_n hx hb dL_law_1489 rfl (lv_at hl 1 rfl) ?_
  refine lv_aload_n hx hb dL_law_1490 rfl (lv_at hl 0 rfl) ?_
  refine lv_iload_n hx hb dL_law_1491 rfl (lv_at hl 3 rfl) ?_
  refine lv_iconst (v := 1) hx hb dL_law_1492 (by decide) ?_
  refine lv_iadd hx hb dL_law_1493 ?_
  refine sb_at (P := fun z => W _ _ _ _ _ _ _ _ _ _ _ _ _ _ _ (F0 _ _ _ (.int z :: _))) (nI_add i 1) ?_
  refine va_sld hx hb hX hbl hbA hS (vp_in_nI (show i + 1 < L by omega) (by omega)) dL_law_1494 ?_
  refine sb_at (P := fun z => W _ _ _ _ _ _ _ _ _ _ _ _ _ _ _ (F0 _ _ _ (.int z :: _))) (show xs (nI (i + 1)).toNatClampNeg = xs (i + 1) by rw [nI_clamp (by omega)]) ?_
  refine lv_aload_n hx hb dL_law_1495 rfl (lv_at hl 0 rfl) ?_
  refine lv_iload_n hx hb dL_law_1496 rfl (lv_at hl 3 rfl) ?_
  refine lv_iconst (v := 2) hx hb dL_law_1497 (by decide) ?_
  refine lv_iadd hx hb dL_law_1498 ?_
  refine sb_at (P := fun z => W _ _ _ _ _ _ _ _ _ _ _ _ _ _ _ (F0 _ _ _ (.int z :: _))) (nI_add i 2) ?_
  refine va_sld hx hb hX hbl hbA hS (vp_in_nI (show i + 2 < L by omega) (by omega)) dL_law_1499 ?_
  refine sb_at (P := fun z => W _ _ _ _ _ _ _ _ _ _ _ _ _ _ _ (F0 _ _ _ (.int z :: _))) (show xs (nI (i + 2)).toNatClampNeg = xs (i + 2) by rw [nI_clamp (by omega)]) ?_
  obtain ⟨hI1, r2, r39, r57, r75, ar2, ar39, ar57, ar75⟩ := id hG1
  obtain ⟨_, _, _, cc1, _⟩ := invX_0 hI1
  refine xcVi E ⟨hD1, hA1⟩ (⟨hP1, hS⟩ : Hp g ad1 122 S1 (fun q : Nat => s.heap.size ≤ q) s.heap H locs) hml hl.1 0 (gX11_seat_0 l g ad1 hD1 S1 hI1 (xs (i + 1)) (xs (i + 2)) (by omega) (by omega) (by omega)) mX11_seat q1290 (by decide) cc1 rfl rfl ⟨(Nat.le_of_ble_eq_true rfl), (Nat.le_of_ble_eq_true rfl)⟩ ⟨(Nat.le_of_ble_eq_true rfl), (Nat.le_of_ble_eq_true rfl)⟩ (Nat.le_of_ble_eq_true rfl) rfl dL_law_1500 (fun r1 S3 H locs hp1 hQ1 hk1 => ?_)
  subst hp1
  have hG3 := hG1
  have hP3 : PW g ad1 122 S1 H := hQ1.1
  have hS := hQ1.2
  have hP2 : PW g ad2 20 S2 H := pw_kept hP2 hk1 hne
  refine lv_pop hx hb dL_law_1503 rfl ?_
  refine lv_aload_n hx hb dL_law_1504 rfl (lv_at hl 2 rfl) ?_
  refine lv_aload_n hx hb dL_law_1505 rfl (lv_at hl 0 rfl) ?_
  refine lv_iload_n hx hb dL_law_1506 rfl (lv_at hl 3 rfl) ?_
  refine lv_iconst (v := 1) hx hb dL_law_1507 (by decide) ?_
  refine lv_iadd hx hb dL_law_1508 ?_
  refine sb_at (P := fun z => W _ _ _ _ _ _ _ _ _ _ _ _ _ _ _ (F0 _ _ _ (.int z :: _))) (nI_add i 1) ?_
  refine va_sld hx hb hX hbl hbA hS (vp_in_nI (show i + 1 < L by omega) (by omega)) dL_law_1509 ?_
  refine sb_at (P := fun z => W _ _ _ _ _ _ _ _ _ _ _ _ _ _ _ (F0 _ _ _ (.int z :: _))) (show xs (nI (i + 1)).toNatClampNeg = xs (i + 1) by rw [nI_clamp (by omega)]) ?_
  refine lv_aload_n hx hb dL_law_1510 rfl (lv_at hl 0 rfl) ?_
  refine lv_iload_n hx hb dL_law_1511 rfl (lv_at hl 3 rfl) ?_
  refine lv_iconst (v := 2) hx hb dL_law_1512 (by decide) ?_
  refine lv_iadd hx hb dL_law_1513 ?_
  refine sb_at (P := fun z => W _ _ _ _ _ _ _ _ _ _ _ _ _ _ _ (F0 _ _ _ (.int z :: _))) (nI_add i 2) ?_
  refine va_sld hx hb hX hbl hbA hS (vp_in_nI (show i + 2 < L by omega) (by omega)) dL_law_1514 ?_
  refine sb_at (P := fun z => W _ _ _ _ _ _ _ _ _ _ _ _ _ _ _ (F0 _ _ _ (.int z :: _))) (show xs (nI (i + 2)).toNatClampNeg = xs (i + 2) by rw [nI_clamp (by omega)]) ?_
  obtain ⟨hI2, t0, t1, t2, t3, at0, at1, at2, at3, ht0, ht1, ht2, ht3⟩ := id hG2
  obtain ⟨_, _, _, _, _, _, _, _, _, _, _, _, _, _, _, _, _, _, _, cc2, _, _, _, _, _, _, _, _, _⟩ := invM_0 hI2
  refine xcVi E ⟨hD2, hA2⟩ (⟨hP2, hS⟩ : Hp g ad2 20 S2 (fun q : Nat => s.heap.size ≤ q) s.heap H locs) hml hl.1 0 (gX12_seat_0 l g ad2 hD2 S2 hI2 (xs (i + 1)) (xs (i + 2)) (by omega) (by omega) (by omega) (by omega) (by omega) at0) mX12_seat q2054 (by decide) cc2 rfl rfl ⟨(Nat.le_of_ble_eq_true rfl), (Nat.le_of_ble_eq_true rfl)⟩ ⟨(Nat.le_of_ble_eq_true rfl), (Nat.le_of_ble_eq_true rfl)⟩ (Nat.le_of_ble_eq_true rfl) rfl dL_law_1515 (fun r2 S4 H locs hp2 hQ2 hk2 => ?_)
  obtain ⟨hI4, o2⟩ := hp2
  have hG4 : GM g ad2 S4 := ⟨hI4, (by rw [o2 6 (by decide), o2 7 (by decide)]; exact t0), (by rw [o2 6 (by decide), o2 7 (by decide)]; exact t1), (by rw [o2 6 (by decide), o2 7 (by decide)]; exact t2), (by rw [o2 6 (by decide), o2 7 (by decide)]; exact t3), (at_tr at0 (o2 7 (by decide)) (o2 12 (by decide))), (at_tr at1 (o2 7 (by decide)) (o2 12 (by decide))), (at_tr at2 (o2 7 (by decide)) (o2 12 (by decide))), (at_tr at3 (o2 7 (by decide)) (o2 12 (by decide))), (ht_tr ht0 (o2 7 (by decide)) (o2 9 (by decide))), (ht_tr ht1 (o2 7 (by decide)) (o2 9 (by decide))), (ht_tr ht2 (o2 7 (by decide)) (o2 9 (by decide))), (ht_tr ht3 (o2 7 (by decide)) (o2 9 (by decide)))⟩
  have hS := hQ2.2
  have hP4 : PW g ad2 20 S4 H := hQ2.1
  have hP3 : PW g ad1 122 S1 H := pw_kept hP3 hk2 (fun i j hi hj e => hne j i hj hi e.symm)
  have hR4 : RR S1 S4 := rr_eq hR rfl rfl rfl (o2 13 (by decide)) (o2 1 (by decide)) (o2 2 (by decide))
  refine lv_pop hx hb dL_law_1518 rfl ?_
  refine lv_goto (tgt := 2159) hx hb dL_law_1519 (by decide) ?_
  exact K S1 S4 H locs ls hG3 hG4 hR4 hP3 hP4 hS hl
set_option maxHeartbeats 4000000 in
set_option maxRecDepth 100000 in
theorem law_case_44 {p : Program} {l : Launch} {e : Env} {s : State} {m : MethodId} {below : List Frame} {meth : Method} {c : Code} {b L : Nat} {xs : Nat → Int32} (C0 : lw_At p s m meth c b L xs) {g : GG} {tt : TT} {ad1 ad2 : Nat → Nat} (hK : KK g s) (hT : TW tt (fun q : Nat => s.heap.size ≤ q) s s.heap) (hD1 : Dj ad1 122) (hD2 : Dj ad2 20) (hA1 : ∀ i, i < 122 → (fun q : Nat => s.heap.size ≤ q) (ad1 i)) (hA2 : ∀ i, i < 20 → (fun q : Nat => s.heap.size ≤ q) (ad2 i)) (hne : ∀ i j, i < 122 → j < 20 → ad1 i ≠ ad2 j) {i : Nat} (hi : i + 6 ≤ L) (hL : L ≤ 3072) {S1 S2 : SS} (hG1 : GX g ad1 S1) (hG2 : GM g ad2 S2) (hR : RR S1 S2) {H : Heap} {locs : List Loc} (hP1 : PW g ad1 122 S1 H) (hP2 : PW g ad2 20 S2 H) (hS : va_S (fun q : Nat => s.heap.size ≤ q) s.heap H locs) {ls : Array Slot} (hl : lv_has ls 4 [(0, .ref b), (1, .ref (ad1 0)), (2, .ref (ad2 0)), (3, .int (nI i))]) (K : (∀ (S1 S2 : SS) (H : Heap) (locs : List Loc) (ls : Array Slot), GX g ad1 S1 → GM g ad2 S2 → RR S1 S2 → PW g ad1 122 S1 H → PW g ad2 20 S2 H → va_S (fun q : Nat => s.heap.size ≤ q) s.heap H locs → lv_has ls 4 [(0, .ref b), (1, .ref (ad1 0)), (2, .ref (ad2 0)), (3, .int (nI i))] → W p l e room_1 s m #[Value.ref b] below meth c H locs 142 12631 (lw_Z below #[Value.ref b] s) (F0 m 2159 ls []))) : W p l e room_1 s m #[Value.ref b] below meth c H locs 142 12631 (lw_Z below #[Value.ref b] s) (F0 m 1522 ls []) := by
  obtain ⟨hx, hb, hr, hml, hown, hts, hX, hbl, hlocks, hgv⟩ := id C0
  have hbA : ¬ (fun q : Nat => s.heap.size ≤ q) b := Nat.not_le.mpr hbl
  have E : Ev p s m #[Value.ref b] c cL_law "EbbWreckLaw" g := ⟨hx, hb, hown, fun w h => hts w (List.mem_filter.mp h).1, hK⟩
  refine lv_aload_n hx hb dL_law_1522 rfl (lv_at hl 1 rfl) ?_
  refine lv_aload_n hx hb dL_law_1523 rfl (lv_at hl 0 rfl) ?_
  refine lv_iload_n hx hb dL_law_1524 rfl (lv_at hl 3 rfl) ?_
  refine lv_iconst (v := 1) hx hb dL_law_1525 (by decide) ?_
  refine lv_iadd hx hb dL_law_1526 ?_
  refine sb_at (P := fun z => W _ _ _ _ _ _ _ _ _ _ _ _ _ _ _ (F0 _ _ _ (.int z :: _))) (nI_add i 1) ?_
  refine va_sld hx hb hX hbl hbA hS (vp_in_nI (show i + 1 < L by omega) (by omega)) dL_law_1527 ?_
  refine sb_at (P := fun z => W _ _ _ _ _ _ _ _ _ _ _ _ _ _ _ (F0 _ _ _ (.int z :: _))) (show xs (nI (i + 1)).toNatClampNeg = xs (i + 1) by rw [nI_clamp (by omega)]) ?_
  obtain ⟨hI1, r2, r39, r57, r75, ar2, ar39, ar57, ar75⟩ := id hG1
  obtain ⟨_, _, _, cc1, _⟩ := invX_0 hI1
  refine xcVi E ⟨hD1, hA1⟩ (⟨hP1, hS⟩ : Hp g ad1 122 S1 (fun q : Nat => s.heap.size ≤ q) s.heap H locs) hml hl.1 0 (gX11_seats_0 l g ad1 hD1 S1 hI1 (xs (i + 1)) (by omega) (by omega) (by omega)) mX11_seats q1294 (by decide) cc1 rfl rfl ⟨(Nat.le_of_ble_eq_true rfl), (Nat.le_of_ble_eq_true rfl)⟩ ⟨(Nat.le_of_ble_eq_true rfl), (Nat.le_of_ble_eq_true rfl)⟩ (Nat.le_of_ble_eq_true rfl) rfl dL_law_1528 (fun r1 S3 H locs hp1 hQ1 hk1 => ?_)
  obtain ⟨rfl, bb1⟩ := hp1
  have hG3 := hG1
  have hP3 : PW g ad1 122 S1 H := hQ1.1
  have hS := hQ1.2
  have hP2 : PW g ad2 20 S2 H := pw_kept hP2 hk1 hne
  refine lv_pop hx hb dL_law_1531 rfl ?_
  refine lv_aload_n hx hb dL_law_1532 rfl (lv_at hl 2 rfl) ?_
  refine lv_aload_n hx hb dL_law_1533 rfl (lv_at hl 0 rfl) ?_
  refine lv_iload_n hx hb dL_law_1534 rfl (lv_at hl 3 rfl) ?_
  refine lv_iconst (v := 1) hx hb dL_law_1535 (by decide) ?_
  refine lv_iadd hx hb dL_law_1536 ?_
  refine sb_at (P := fun z => W _ _ _ _ _ _ _ _ _ _ _ _ _ _ _ (F0 _ _ _ (.int z :: _))) (nI_add i 1) ?_
  refine va_sld hx hb hX hbl hbA hS (vp_in_nI (show i + 1 < L by omega) (by omega)) dL_law_1537 ?_
  refine sb_at (P := fun z => W _ _ _ _ _ _ _ _ _ _ _ _ _ _ _ (F0 _ _ _ (.int z :: _))) (show xs (nI (i + 1)).toNatClampNeg = xs (i + 1) by rw [nI_clamp (by omega)]) ?_
  obtain ⟨hI2, t0, t1, t2, t3, at0, at1, at2, at3, ht0, ht1, ht2, ht3⟩ := id hG2
  obtain ⟨_, _, _, _, _, _, _, _, _, _, _, _, _, _, _, _, _, _, _, cc2, _, _, _, _, _, _, _, _, _⟩ := invM_0 hI2
  refine xcVi E ⟨hD2, hA2⟩ (⟨hP2, hS⟩ : Hp g ad2 20 S2 (fun q : Nat => s.heap.size ≤ q) s.heap H locs) hml hl.1 0 (gX12_seats_0 l g ad2 hD2 S2 hI2 (xs (i + 1)) (by omega) (by omega) (by omega) (by omega) (by omega) at0) mX12_seats q2066 (by decide) cc2 rfl rfl ⟨(Nat.le_of_ble_eq_true rfl), (Nat.le_of_ble_eq_true rfl)⟩ ⟨(Nat.le_of_ble_eq_true rfl), (Nat.le_of_ble_eq_true rfl)⟩ (Nat.le_of_ble_eq_true rfl) rfl dL_law_1538 (fun r2 S4 H locs hp2 hQ2 hk2 => ?_)
  obtain ⟨hI4, o2, bb2⟩ := hp2
  have hG4 : GM g ad2 S4 := ⟨hI4, (by rw [o2 6 (by decide), o2 7 (by decide)]; exact t0), (by rw [o2 6 (by decide), o2 7 (by decide)]; exact t1), (by rw [o2 6 (by decide), o2 7 (by decide)]; exact t2), (by rw [o2 6 (by decide), o2 7 (by decide)]; exact t3), (at_tr at0 (o2 7 (by decide)) (o2 12 (by decide))), (at_tr at1 (o2 7 (by decide)) (o2 12 (by decide))), (at_tr at2 (o2 7 (by decide)) (o2 12 (by decide))), (at_tr at3 (o2 7 (by decide)) (o2 12 (by decide))), (ht_tr ht0 (o2 7 (by decide)) (o2 9 (by decide))), (ht_tr ht1 (o2 7 (by decide)) (o2 9 (by decide))), (ht_tr ht2 (o2 7 (by decide)) (o2 9 (by decide))), (ht_tr ht3 (o2 7 (by decide)) (o2 9 (by decide)))⟩
  have hS := hQ2.2
  have hP4 : PW g ad2 20 S4 H := hQ2.1
  have hP3 : PW g ad1 122 S1 H := pw_kept hP3 hk2 (fun i j hi hj e => hne j i hj hi e.symm)
  have hR4 : RR S1 S4 := rr_eq hR rfl rfl rfl (o2 13 (by decide)) (o2 1 (by decide)) (o2 2 (by decide))
  refine lv_pop hx hb dL_law_1541 rfl ?_
  refine lv_goto (tgt := 2159) hx hb dL_law_1542 (by decide) ?_
  exact K S1 S4 H locs ls hG3 hG4 hR4 hP3 hP4 hS hl
set_option maxHeartbeats 4000000 in
set_option maxRecDepth 100000 in
theorem law_case_45 {p : Program} {l : Launch} {e : Env} {s : State} {m : MethodId} {below : List Frame} {meth : Method} {c : Code} {b L : Nat} {xs : Nat → Int32} (C0 : lw_At p s m meth c b L xs) {g : GG} {tt : TT} {ad1 ad2 : Nat → Nat} (hK : KK g s) (hT : TW tt (fun q : Nat => s.heap.size ≤ q) s s.heap) (hD1 : Dj ad1 122) (hD2 : Dj ad2 20) (hA1 : ∀ i, i < 122 → (fun q : Nat => s.heap.size ≤ q) (ad1 i)) (hA2 : ∀ i, i < 20 → (fun q : Nat => s.heap.size ≤ q) (ad2 i)) (hne : ∀ i j, i < 122 → j < 20 → ad1 i ≠ ad2 j) {i : Nat} (hi : i + 6 ≤ L) (hL : L ≤ 3072) {S1 S2 : SS} (hG1 : GX g ad1 S1) (hG2 : GM g ad2 S2) (hR : RR S1 S2) {H : Heap} {locs : List Loc} (hP1 : PW g ad1 122 S1 H) (hP2 : PW g ad2 20 S2 H) (hS : va_S (fun q : Nat => s.heap.size ≤ q) s.heap H locs) {ls : Array Slot} (hl : lv_has ls 4 [(0, .ref b), (1, .ref (ad1 0)), (2, .ref (ad2 0)), (3, .int (nI i))]) (K : (∀ (S1 S2 : SS) (H : Heap) (locs : List Loc) (ls : Array Slot), GX g ad1 S1 → GM g ad2 S2 → RR S1 S2 → PW g ad1 122 S1 H → PW g ad2 20 S2 H → va_S (fun q : Nat => s.heap.size ≤ q) s.heap H locs → lv_has ls 4 [(0, .ref b), (1, .ref (ad1 0)), (2, .ref (ad2 0)), (3, .int (nI i))] → W p l e room_1 s m #[Value.ref b] below meth c H locs 142 12631 (lw_Z below #[Value.ref b] s) (F0 m 2159 ls []))) : W p l e room_1 s m #[Value.ref b] below meth c H locs 142 12631 (lw_Z below #[Value.ref b] s) (F0 m 1545 ls []) := by
  obtain ⟨hx, hb, hr, hml, hown, hts, hX, hbl, hlocks, hgv⟩ := id C0
  have hbA : ¬ (fun q : Nat => s.heap.size ≤ q) b := Nat.not_le.mpr hbl
  have E : Ev p s m #[Value.ref b] c cL_law "EbbWreckLaw" g := ⟨hx, hb, hown, fun w h => hts w (List.mem_filter.mp h).1, hK⟩
  refine lv_aload_n hx hb dL_law_1545 rfl (lv_at hl 1 rfl) ?_
  obtain ⟨hI1, r2, r39, r57, r75, ar2, ar39, ar57, ar75⟩ := id hG1
  obtain ⟨_, _, _, cc1, _⟩ := invX_0 hI1
  refine xcVi E ⟨hD1, hA1⟩ (⟨hP1, hS⟩ : Hp g ad1 122 S1 (fun q : Nat => s.heap.size ≤ q) s.heap H locs) hml hl.1 0 (gX11_rests_0 l g ad1 hD1 S1 hI1 (by omega) (by omega) (by omega)) mX11_rests q1303 (by decide) cc1 rfl rfl ⟨(Nat.le_of_ble_eq_true rfl), (Nat.le_of_ble_eq_true rfl)⟩ ⟨(Nat.le_of_ble_eq_true rfl), (Nat.le_of_ble_eq_true rfl)⟩ (Nat.le_of_ble_eq_true rfl) rfl dL_law_1546 (fun r1 S3 H locs hp1 hQ1 hk1 => ?_)
  obtain ⟨hI3, o1⟩ := hp1
  have hG3 : GX g ad1 S3 := ⟨hI3, (by rw [o1 2 (by decide)]; exact r2), (by rw [o1 39 (by decide)]; exact r39), (by rw [o1 57 (by decide)]; exact r57), (by rw [o1 75 (by decide)]; exact r75), (ar_tr ar2 (o1 16 (by decide)) (o1 17 (by decide)) (o1 18 (by decide)) (o1 19 (by decide))), (ar_tr ar39 (o1 53 (by decide)) (o1 54 (by decide)) (o1 55 (by decide)) (o1 56 (by decide))), (ar_tr ar57 (o1 71 (by decide)) (o1 72 (by decide)) (o1 73 (by decide)) (o1 74 (by decide))), (ar_tr ar75 (o1 89 (by decide)) (o1 90 (by decide)) (o1 91 (by decide)) (o1 92 (by decide)))⟩
  have hP3 : PW g ad1 122 S3 H := hQ1.1
  have hS := hQ1.2
  have hP2 : PW g ad2 20 S2 H := pw_kept hP2 hk1 hne
  refine lv_pop hx hb dL_law_1549 rfl ?_
  refine lv_aload_n hx hb dL_law_1550 rfl (lv_at hl 2 rfl) ?_
  obtain ⟨hI2, t0, t1, t2, t3, at0, at1, at2, at3, ht0, ht1, ht2, ht3⟩ := id hG2
  obtain ⟨_, _, _, _, _, _, _, _, _, _, _, _, _, _, _, _, _, _, _, cc2, _, _, _, _, _, _, _, _, _⟩ := invM_0 hI2
  refine xcVi E ⟨hD2, hA2⟩ (⟨hP2, hS⟩ : Hp g ad2 20 S2 (fun q : Nat => s.heap.size ≤ q) s.heap H locs) hml hl.1 0 (gX12_rests__0 l g ad2 hD2 S2 hI2 (by omega) (by omega) (by omega) (by omega) (by omega) at0) mX12_rests_ q2074 (by decide) cc2 rfl rfl ⟨(Nat.le_of_ble_eq_true rfl), (Nat.le_of_ble_eq_true rfl)⟩ ⟨(Nat.le_of_ble_eq_true rfl), (Nat.le_of_ble_eq_true rfl)⟩ (Nat.le_of_ble_eq_true rfl) rfl dL_law_1551 (fun r2 S4 H locs hp2 hQ2 hk2 => ?_)
  obtain ⟨hI4, o2⟩ := hp2
  have hG4 : GM g ad2 S4 := ⟨hI4, (by rw [o2 6 (by decide), o2 7 (by decide)]; exact t0), (by rw [o2 6 (by decide), o2 7 (by decide)]; exact t1), (by rw [o2 6 (by decide), o2 7 (by decide)]; exact t2), (by rw [o2 6 (by decide), o2 7 (by decide)]; exact t3), (at_tr at0 (o2 7 (by decide)) (o2 12 (by decide))), (at_tr at1 (o2 7 (by decide)) (o2 12 (by decide))), (at_tr at2 (o2 7 (by decide)) (o2 12 (by decide))), (at_tr at3 (o2 7 (by decide)) (o2 12 (by decide))), (ht_tr ht0 (o2 7 (by decide)) (o2 9 (by decide))), (ht_tr ht1 (o2 7 (by decide)) (o2 9 (by decide))), (ht_tr ht2 (o2 7 (by decide)) (o2 9 (by decide))), (ht_tr ht3 (o2 7 (by decide)) (o2 9 (by decide)))⟩
  have hS := hQ2.2
  have hP4 : PW g ad2 20 S4 H := hQ2.1
  have hP3 : PW g ad1 122 S3 H := pw_kept hP3 hk2 (fun i j hi hj e => hne j i hj hi e.symm)
  have hR4 : RR S3 S4 := rr_eq hR (o1 93 (by decide)) (o1 117 (by decide)) (o1 118 (by decide)) (o2 13 (by decide)) (o2 1 (by decide)) (o2 2 (by decide))
  refine lv_pop hx hb dL_law_1554 rfl ?_
  refine lv_goto (tgt := 2159) hx hb dL_law_1555 (by decide) ?_
  exact K S3 S4 H locs ls hG3 hG4 hR4 hP3 hP4 hS hl
set_option maxHeartbeats 4000000 in
set_option maxRecDepth 100000 in
theorem law_case_46 {p : Program} {l : Launch} {e : Env} {s : State} {m : MethodId} {below : List Frame} {meth : Method} {c : Code} {b L : Nat} {xs : Nat → Int32} (C0 : lw_At p s m meth c b L xs) {g : GG} {tt : TT} {ad1 ad2 : Nat → Nat} (hK : KK g s) (hT : TW tt (fun q : Nat => s.heap.size ≤ q) s s.heap) (hD1 : Dj ad1 122) (hD2 : Dj ad2 20) (hA1 : ∀ i, i < 122 → (fun q : Nat => s.heap.size ≤ q) (ad1 i)) (hA2 : ∀ i, i < 20 → (fun q : Nat => s.heap.size ≤ q) (ad2 i)) (hne : ∀ i j, i < 122 → j < 20 → ad1 i ≠ ad2 j) {i : Nat} (hi : i + 6 ≤ L) (hL : L ≤ 3072) {S1 S2 : SS} (hG1 : GX g ad1 S1) (hG2 : GM g ad2 S2) (hR : RR S1 S2) {H : Heap} {locs : List Loc} (hP1 : PW g ad1 122 S1 H) (hP2 : PW g ad2 20 S2 H) (hS : va_S (fun q : Nat => s.heap.size ≤ q) s.heap H locs) {ls : Array Slot} (hl : lv_has ls 4 [(0, .ref b), (1, .ref (ad1 0)), (2, .ref (ad2 0)), (3, .int (nI i))]) (K : (∀ (S1 S2 : SS) (H : Heap) (locs : List Loc) (ls : Array Slot), GX g ad1 S1 → GM g ad2 S2 → RR S1 S2 → PW g ad1 122 S1 H → PW g ad2 20 S2 H → va_S (fun q : Nat => s.heap.size ≤ q) s.heap H locs → lv_has ls 4 [(0, .ref b), (1, .ref (ad1 0)), (2, .ref (ad2 0)), (3, .int (nI i))] → W p l e room_1 s m #[Value.ref b] below meth c H locs 142 12631 (lw_Z below #[Value.ref b] s) (F0 m 2159 ls []))) : W p l e room_1 s m #[Value.ref b] below meth c H locs 142 12631 (lw_Z below #[Value.ref b] s) (F0 m 1558 ls []) := by
  obtain ⟨hx, hb, hr, hml, hown, hts, hX, hbl, hlocks, hgv⟩ := id C0
  have hbA : ¬ (fun q : Nat => s.heap.size ≤ q) b := Nat.not_le.mpr hbl
  have E : Ev p s m #[Value.ref b] c cL_law "EbbWreckLaw" g := ⟨hx, hb, hown, fun w h => hts w (List.mem_filter.mp h).1, hK⟩
  refine lv_aload_n hx hb dL_law_1558 rfl (lv_at hl 1 rfl) ?_
  refine lv_aload_n hx hb dL_law_1559 rfl (lv_at hl 0 rfl) ?_
  refine lv_iload_n hx hb dL_law_1560 rfl (lv_at hl 3 rfl) ?_
  refine lv_iconst (v := 1) hx hb dL_law_1561 (by decide) ?_
  refine lv_iadd hx hb dL_law_1562 ?_
  refine sb_at (P := fun z => W _ _ _ _ _ _ _ _ _ _ _ _ _ _ _ (F0 _ _ _ (.int z :: _))) (nI_add i 1) ?_
  refine va_sld hx hb hX hbl hbA hS (vp_in_nI (show i + 1 < L by omega) (by omega)) dL_law_1563 ?_
  refine sb_at (P := fun z => W _ _ _ _ _ _ _ _ _ _ _ _ _ _ _ (F0 _ _ _ (.int z :: _))) (show xs (nI (i + 1)).toNatClampNeg = xs (i + 1) by rw [nI_clamp (by omega)]) ?_
  obtain ⟨hI1, r2, r39, r57, r75, ar2, ar39, ar57, ar75⟩ := id hG1
  obtain ⟨_, _, _, cc1, _⟩ := invX_0 hI1
  refine xcVi E ⟨hD1, hA1⟩ (⟨hP1, hS⟩ : Hp g ad1 122 S1 (fun q : Nat => s.heap.size ≤ q) s.heap H locs) hml hl.1 0 (gX11_rest_0 l g ad1 hD1 S1 hI1 (xs (i + 1)) (by omega) (by omega) (by omega)) mX11_rest q1333 (by decide) cc1 rfl rfl ⟨(Nat.le_of_ble_eq_true rfl), (Nat.le_of_ble_eq_true rfl)⟩ ⟨(Nat.le_of_ble_eq_true rfl), (Nat.le_of_ble_eq_true rfl)⟩ (Nat.le_of_ble_eq_true rfl) rfl dL_law_1564 (fun r1 S3 H locs hp1 hQ1 hk1 => ?_)
  obtain ⟨hI3, o1, bb1⟩ := hp1
  have hG3 : GX g ad1 S3 := ⟨hI3, (by rw [o1 2 (by decide)]; exact r2), (by rw [o1 39 (by decide)]; exact r39), (by rw [o1 57 (by decide)]; exact r57), (by rw [o1 75 (by decide)]; exact r75), (ar_tr ar2 (o1 16 (by decide)) (o1 17 (by decide)) (o1 18 (by decide)) (o1 19 (by decide))), (ar_tr ar39 (o1 53 (by decide)) (o1 54 (by decide)) (o1 55 (by decide)) (o1 56 (by decide))), (ar_tr ar57 (o1 71 (by decide)) (o1 72 (by decide)) (o1 73 (by decide)) (o1 74 (by decide))), (ar_tr ar75 (o1 89 (by decide)) (o1 90 (by decide)) (o1 91 (by decide)) (o1 92 (by decide)))⟩
  have hP3 : PW g ad1 122 S3 H := hQ1.1
  have hS := hQ1.2
  have hP2 : PW g ad2 20 S2 H := pw_kept hP2 hk1 hne
  refine lv_pop hx hb dL_law_1567 rfl ?_
  refine lv_aload_n hx hb dL_law_1568 rfl (lv_at hl 2 rfl) ?_
  refine lv_aload_n hx hb dL_law_1569 rfl (lv_at hl 0 rfl) ?_
  refine lv_iload_n hx hb dL_law_1570 rfl (lv_at hl 3 rfl) ?_
  refine lv_iconst (v := 1) hx hb dL_law_1571 (by decide) ?_
  refine lv_iadd hx hb dL_law_1572 ?_
  refine sb_at (P := fun z => W _ _ _ _ _ _ _ _ _ _ _ _ _ _ _ (F0 _ _ _ (.int z :: _))) (nI_add i 1) ?_
  refine va_sld hx hb hX hbl hbA hS (vp_in_nI (show i + 1 < L by omega) (by omega)) dL_law_1573 ?_
  refine sb_at (P := fun z => W _ _ _ _ _ _ _ _ _ _ _ _ _ _ _ (F0 _ _ _ (.int z :: _))) (show xs (nI (i + 1)).toNatClampNeg = xs (i + 1) by rw [nI_clamp (by omega)]) ?_
  obtain ⟨hI2, t0, t1, t2, t3, at0, at1, at2, at3, ht0, ht1, ht2, ht3⟩ := id hG2
  obtain ⟨_, _, _, _, _, _, _, _, _, _, _, _, _, _, _, _, _, _, _, cc2, _, _, _, _, _, _, _, _, _⟩ := invM_0 hI2
  refine xcVi E ⟨hD2, hA2⟩ (⟨hP2, hS⟩ : Hp g ad2 20 S2 (fun q : Nat => s.heap.size ≤ q) s.heap H locs) hml hl.1 0 (gX12_rest_0 l g ad2 hD2 S2 hI2 (xs (i + 1)) (by omega) (by omega) (by omega) (by omega) (by omega) at0) mX12_rest q2086 (by decide) cc2 rfl rfl ⟨(Nat.le_of_ble_eq_true rfl), (Nat.le_of_ble_eq_true rfl)⟩ ⟨(Nat.le_of_ble_eq_true rfl), (Nat.le_of_ble_eq_true rfl)⟩ (Nat.le_of_ble_eq_true rfl) rfl dL_law_1574 (fun r2 S4 H locs hp2 hQ2 hk2 => ?_)
  obtain ⟨hI4, o2⟩ := hp2
  have hG4 : GM g ad2 S4 := ⟨hI4, (by rw [o2 6 (by decide), o2 7 (by decide)]; exact t0), (by rw [o2 6 (by decide), o2 7 (by decide)]; exact t1), (by rw [o2 6 (by decide), o2 7 (by decide)]; exact t2), (by rw [o2 6 (by decide), o2 7 (by decide)]; exact t3), (at_tr at0 (o2 7 (by decide)) (o2 12 (by decide))), (at_tr at1 (o2 7 (by decide)) (o2 12 (by decide))), (at_tr at2 (o2 7 (by decide)) (o2 12 (by decide))), (at_tr at3 (o2 7 (by decide)) (o2 12 (by decide))), (ht_tr ht0 (o2 7 (by decide)) (o2 9 (by decide))), (ht_tr ht1 (o2 7 (by decide)) (o2 9 (by decide))), (ht_tr ht2 (o2 7 (by decide)) (o2 9 (by decide))), (ht_tr ht3 (o2 7 (by decide)) (o2 9 (by decide)))⟩
  have hS := hQ2.2
  have hP4 : PW g ad2 20 S4 H := hQ2.1
  have hP3 : PW g ad1 122 S3 H := pw_kept hP3 hk2 (fun i j hi hj e => hne j i hj hi e.symm)
  have hR4 : RR S3 S4 := rr_eq hR (o1 93 (by decide)) (o1 117 (by decide)) (o1 118 (by decide)) (o2 13 (by decide)) (o2 1 (by decide)) (o2 2 (by decide))
  refine lv_pop hx hb dL_law_1577 rfl ?_
  refine lv_goto (tgt := 2159) hx hb dL_law_1578 (by decide) ?_
  exact K S3 S4 H locs ls hG3 hG4 hR4 hP3 hP4 hS hl
set_option maxHeartbeats 4000000 in
set_option maxRecDepth 100000 in
theorem law_case_47 {p : Program} {l : Launch} {e : Env} {s : State} {m : MethodId} {below : List Frame} {meth : Method} {c : Code} {b L : Nat} {xs : Nat → Int32} (C0 : lw_At p s m meth c b L xs) {g : GG} {tt : TT} {ad1 ad2 : Nat → Nat} (hK : KK g s) (hT : TW tt (fun q : Nat => s.heap.size ≤ q) s s.heap) (hD1 : Dj ad1 122) (hD2 : Dj ad2 20) (hA1 : ∀ i, i < 122 → (fun q : Nat => s.heap.size ≤ q) (ad1 i)) (hA2 : ∀ i, i < 20 → (fun q : Nat => s.heap.size ≤ q) (ad2 i)) (hne : ∀ i j, i < 122 → j < 20 → ad1 i ≠ ad2 j) {i : Nat} (hi : i + 6 ≤ L) (hL : L ≤ 3072) {S1 S2 : SS} (hG1 : GX g ad1 S1) (hG2 : GM g ad2 S2) (hR : RR S1 S2) {H : Heap} {locs : List Loc} (hP1 : PW g ad1 122 S1 H) (hP2 : PW g ad2 20 S2 H) (hS : va_S (fun q : Nat => s.heap.size ≤ q) s.heap H locs) {ls : Array Slot} (hl : lv_has ls 4 [(0, .ref b), (1, .ref (ad1 0)), (2, .ref (ad2 0)), (3, .int (nI i))]) (K : (∀ (S1 S2 : SS) (H : Heap) (locs : List Loc) (ls : Array Slot), GX g ad1 S1 → GM g ad2 S2 → RR S1 S2 → PW g ad1 122 S1 H → PW g ad2 20 S2 H → va_S (fun q : Nat => s.heap.size ≤ q) s.heap H locs → lv_has ls 4 [(0, .ref b), (1, .ref (ad1 0)), (2, .ref (ad2 0)), (3, .int (nI i))] → W p l e room_1 s m #[Value.ref b] below meth c H locs 142 12631 (lw_Z below #[Value.ref b] s) (F0 m 2159 ls []))) : W p l e room_1 s m #[Value.ref b] below meth c H locs 142 12631 (lw_Z below #[Value.ref b] s) (F0 m 1581 ls []) := by
  obtain ⟨hx, hb, hr, hml, hown, hts, hX, hbl, hlocks, hgv⟩ := id C0
  have hbA : ¬ (fun q : Nat => s.heap.size ≤ q) b := Nat.not_le.mpr hbl
  have E : Ev p s m #[Value.ref b] c cL_law "EbbWreckLaw" g := ⟨hx, hb, hown, fun w h => hts w (List.mem_filter.mp h).1, hK⟩
  refine lv_aload_n hx hb dL_law_1581 rfl (lv_at hl 1 rfl) ?_
  refine lv_aload_n hx hb dL_law_1582 rfl (lv_at hl 0 rfl) ?_
  refine lv_iload_n hx hb dL_law_1583 rfl (lv_at hl 3 rfl) ?_
  refine lv_iconst (v := 1) hx hb dL_law_1584 (by decide) ?_
  refine lv_iadd hx hb dL_law_1585 ?_
  refine sb_at (P := fun z => W _ _ _ _ _ _ _ _ _ _ _ _ _ _ _ (F0 _ _ _ (.int z :: _))) (nI_add i 1) ?_
  refine va_sld hx hb hX hbl hbA hS (vp_in_nI (show i + 1 < L by omega) (by omega)) dL_law_1586 ?_
  refine sb_at (P := fun z => W _ _ _ _ _ _ _ _ _ _ _ _ _ _ _ (F0 _ _ _ (.int z :: _))) (show xs (nI (i + 1)).toNatClampNeg = xs (i + 1) by rw [nI_clamp (by omega)]) ?_
  refine lv_aload_n hx hb dL_law_1587 rfl (lv_at hl 0 rfl) ?_
  refine lv_iload_n hx hb dL_law_1588 rfl (lv_at hl 3 rfl) ?_
  refine lv_iconst (v := 2) hx hb dL_law_1589 (by decide) ?_
  refine lv_iadd hx hb dL_law_1590 ?_
  refine sb_at (P := fun z => W _ _ _ _ _ _ _ _ _ _ _ _ _ _ _ (F0 _ _ _ (.int z :: _))) (nI_add i 2) ?_
  refine va_sld hx hb hX hbl hbA hS (vp_in_nI (show i + 2 < L by omega) (by omega)) dL_law_1591 ?_
  refine sb_at (P := fun z => W _ _ _ _ _ _ _ _ _ _ _ _ _ _ _ (F0 _ _ _ (.int z :: _))) (show xs (nI (i + 2)).toNatClampNeg = xs (i + 2) by rw [nI_clamp (by omega)]) ?_
  obtain ⟨hI1, r2, r39, r57, r75, ar2, ar39, ar57, ar75⟩ := id hG1
  obtain ⟨_, _, _, cc1, _⟩ := invX_0 hI1
  refine xcVi E ⟨hD1, hA1⟩ (⟨hP1, hS⟩ : Hp g ad1 122 S1 (fun q : Nat => s.heap.size ≤ q) s.heap H locs) hml hl.1 0 (gX11_clock_0 l g ad1 hD1 S1 hI1 (xs (i + 1)) (xs (i + 2)) (by omega) (by omega) (by omega)) mX11_clock q1032 (by decide) cc1 rfl rfl ⟨(Nat.le_of_ble_eq_true rfl), (Nat.le_of_ble_eq_true rfl)⟩ ⟨(Nat.le_of_ble_eq_true rfl), (Nat.le_of_ble_eq_true rfl)⟩ (Nat.le_of_ble_eq_true rfl) rfl dL_law_1592 (fun r1 S3 H locs hp1 hQ1 hk1 => ?_)
  subst hp1
  have hG3 := hG1
  have hP3 : PW g ad1 122 S1 H := hQ1.1
  have hS := hQ1.2
  have hP2 : PW g ad2 20 S2 H := pw_kept hP2 hk1 hne
  refine lv_pop hx hb dL_law_1595 rfl ?_
  refine lv_aload_n hx hb dL_law_1596 rfl (lv_at hl 2 rfl) ?_
  refine lv_aload_n hx hb dL_law_1597 rfl (lv_at hl 0 rfl) ?_
  refine lv_iload_n hx hb dL_law_1598 rfl (lv_at hl 3 rfl) ?_
  refine lv_iconst (v := 1) hx hb dL_law_1599 (by decide) ?_
  refine lv_iadd hx hb dL_law_1600 ?_
  refine sb_at (P := fun z => W _ _ _ _ _ _ _ _ _ _ _ _ _ _ _ (F0 _ _ _ (.int z :: _))) (nI_add i 1) ?_
  refine va_sld hx hb hX hbl hbA hS (vp_in_nI (show i + 1 < L by omega) (by omega)) dL_law_1601 ?_
  refine sb_at (P := fun z => W _ _ _ _ _ _ _ _ _ _ _ _ _ _ _ (F0 _ _ _ (.int z :: _))) (show xs (nI (i + 1)).toNatClampNeg = xs (i + 1) by rw [nI_clamp (by omega)]) ?_
  refine lv_aload_n hx hb dL_law_1602 rfl (lv_at hl 0 rfl) ?_
  refine lv_iload_n hx hb dL_law_1603 rfl (lv_at hl 3 rfl) ?_
  refine lv_iconst (v := 2) hx hb dL_law_1604 (by decide) ?_
  refine lv_iadd hx hb dL_law_1605 ?_
  refine sb_at (P := fun z => W _ _ _ _ _ _ _ _ _ _ _ _ _ _ _ (F0 _ _ _ (.int z :: _))) (nI_add i 2) ?_
  refine va_sld hx hb hX hbl hbA hS (vp_in_nI (show i + 2 < L by omega) (by omega)) dL_law_1606 ?_
  refine sb_at (P := fun z => W _ _ _ _ _ _ _ _ _ _ _ _ _ _ _ (F0 _ _ _ (.int z :: _))) (show xs (nI (i + 2)).toNatClampNeg = xs (i + 2) by rw [nI_clamp (by omega)]) ?_
  obtain ⟨hI2, t0, t1, t2, t3, at0, at1, at2, at3, ht0, ht1, ht2, ht3⟩ := id hG2
  obtain ⟨_, _, _, _, _, _, _, _, _, _, _, _, _, _, _, _, _, _, _, cc2, _, _, _, _, _, _, _, _, _⟩ := invM_0 hI2
  refine xcVi E ⟨hD2, hA2⟩ (⟨hP2, hS⟩ : Hp g ad2 20 S2 (fun q : Nat => s.heap.size ≤ q) s.heap H locs) hml hl.1 0 (gX12_clock_0 l g ad2 hD2 S2 hI2 (xs (i + 1)) (xs (i + 2)) (by omega) (by omega) (by omega) (by omega) (by omega) at0) mX12_clock q2090 (by decide) cc2 rfl rfl ⟨(Nat.le_of_ble_eq_true rfl), (Nat.le_of_ble_eq_true rfl)⟩ ⟨(Nat.le_of_ble_eq_true rfl), (Nat.le_of_ble_eq_true rfl)⟩ (Nat.le_of_ble_eq_true rfl) rfl dL_law_1607 (fun r2 S4 H locs hp2 hQ2 hk2 => ?_)
  obtain ⟨hI4, o2⟩ := hp2
  have hG4 : GM g ad2 S4 := ⟨hI4, (by rw [o2 6 (by decide), o2 7 (by decide)]; exact t0), (by rw [o2 6 (by decide), o2 7 (by decide)]; exact t1), (by rw [o2 6 (by decide), o2 7 (by decide)]; exact t2), (by rw [o2 6 (by decide), o2 7 (by decide)]; exact t3), (at_tr at0 (o2 7 (by decide)) (o2 12 (by decide))), (at_tr at1 (o2 7 (by decide)) (o2 12 (by decide))), (at_tr at2 (o2 7 (by decide)) (o2 12 (by decide))), (at_tr at3 (o2 7 (by decide)) (o2 12 (by decide))), (ht_tr ht0 (o2 7 (by decide)) (o2 9 (by decide))), (ht_tr ht1 (o2 7 (by decide)) (o2 9 (by decide))), (ht_tr ht2 (o2 7 (by decide)) (o2 9 (by decide))), (ht_tr ht3 (o2 7 (by decide)) (o2 9 (by decide)))⟩
  have hS := hQ2.2
  have hP4 : PW g ad2 20 S4 H := hQ2.1
  have hP3 : PW g ad1 122 S1 H := pw_kept hP3 hk2 (fun i j hi hj e => hne j i hj hi e.symm)
  have hR4 : RR S1 S4 := rr_eq hR rfl rfl rfl (o2 13 (by decide)) (o2 1 (by decide)) (o2 2 (by decide))
  refine lv_pop hx hb dL_law_1610 rfl ?_
  refine lv_goto (tgt := 2159) hx hb dL_law_1611 (by decide) ?_
  exact K S1 S4 H locs ls hG3 hG4 hR4 hP3 hP4 hS hl
set_option maxHeartbeats 4000000 in
set_option maxRecDepth 100000 in
theorem law_case_48 {p : Program} {l : Launch} {e : Env} {s : State} {m : MethodId} {below : List Frame} {meth : Method} {c : Code} {b L : Nat} {xs : Nat → Int32} (C0 : lw_At p s m meth c b L xs) {g : GG} {tt : TT} {ad1 ad2 : Nat → Nat} (hK : KK g s) (hT : TW tt (fun q : Nat => s.heap.size ≤ q) s s.heap) (hD1 : Dj ad1 122) (hD2 : Dj ad2 20) (hA1 : ∀ i, i < 122 → (fun q : Nat => s.heap.size ≤ q) (ad1 i)) (hA2 : ∀ i, i < 20 → (fun q : Nat => s.heap.size ≤ q) (ad2 i)) (hne : ∀ i j, i < 122 → j < 20 → ad1 i ≠ ad2 j) {i : Nat} (hi : i + 6 ≤ L) (hL : L ≤ 3072) {S1 S2 : SS} (hG1 : GX g ad1 S1) (hG2 : GM g ad2 S2) (hR : RR S1 S2) {H : Heap} {locs : List Loc} (hP1 : PW g ad1 122 S1 H) (hP2 : PW g ad2 20 S2 H) (hS : va_S (fun q : Nat => s.heap.size ≤ q) s.heap H locs) {ls : Array Slot} (hl : lv_has ls 4 [(0, .ref b), (1, .ref (ad1 0)), (2, .ref (ad2 0)), (3, .int (nI i))]) (K : (∀ (S1 S2 : SS) (H : Heap) (locs : List Loc) (ls : Array Slot), GX g ad1 S1 → GM g ad2 S2 → RR S1 S2 → PW g ad1 122 S1 H → PW g ad2 20 S2 H → va_S (fun q : Nat => s.heap.size ≤ q) s.heap H locs → lv_has ls 4 [(0, .ref b), (1, .ref (ad1 0)), (2, .ref (ad2 0)), (3, .int (nI i))] → W p l e room_1 s m #[Value.ref b] below meth c H locs 142 12631 (lw_Z below #[Value.ref b] s) (F0 m 2159 ls []))) : W p l e room_1 s m #[Value.ref b] below meth c H locs 142 12631 (lw_Z below #[Value.ref b] s) (F0 m 1614 ls []) := by
  obtain ⟨hx, hb, hr, hml, hown, hts, hX, hbl, hlocks, hgv⟩ := id C0
  have hbA : ¬ (fun q : Nat => s.heap.size ≤ q) b := Nat.not_le.mpr hbl
  have E : Ev p s m #[Value.ref b] c cL_law "EbbWreckLaw" g := ⟨hx, hb, hown, fun w h => hts w (List.mem_filter.mp h).1, hK⟩
  refine lv_aload_n hx hb dL_law_1614 rfl (lv_at hl 1 rfl) ?_
  refine lv_aload_n hx hb dL_law_1615 rfl (lv_at hl 0 rfl) ?_
  refine lv_iload_n hx hb dL_law_1616 rfl (lv_at hl 3 rfl) ?_
  refine lv_iconst (v := 1) hx hb dL_law_1617 (by decide) ?_
  refine lv_iadd hx hb dL_law_1618 ?_
  refine sb_at (P := fun z => W _ _ _ _ _ _ _ _ _ _ _ _ _ _ _ (F0 _ _ _ (.int z :: _))) (nI_add i 1) ?_
  refine va_sld hx hb hX hbl hbA hS (vp_in_nI (show i + 1 < L by omega) (by omega)) dL_law_1619 ?_
  refine sb_at (P := fun z => W _ _ _ _ _ _ _ _ _ _ _ _ _ _ _ (F0 _ _ _ (.int z :: _))) (show xs (nI (i + 1)).toNatClampNeg = xs (i + 1) by rw [nI_clamp (by omega)]) ?_
  obtain ⟨hI1, r2, r39, r57, r75, ar2, ar39, ar57, ar75⟩ := id hG1
  obtain ⟨_, _, _, cc1, _⟩ := invX_0 hI1
  refine xcVi E ⟨hD1, hA1⟩ (⟨hP1, hS⟩ : Hp g ad1 122 S1 (fun q : Nat => s.heap.size ≤ q) s.heap H locs) hml hl.1 0 (gX11_set_0 l g ad1 hD1 S1 hI1 (xs (i + 1)) (by omega) (by omega) (by omega)) mX11_set q1036 (by decide) cc1 rfl rfl ⟨(Nat.le_of_ble_eq_true rfl), (Nat.le_of_ble_eq_true rfl)⟩ ⟨(Nat.le_of_ble_eq_true rfl), (Nat.le_of_ble_eq_true rfl)⟩ (Nat.le_of_ble_eq_true rfl) rfl dL_law_1620 (fun r1 S3 H locs hp1 hQ1 hk1 => ?_)
  obtain ⟨rfl, bb1⟩ := hp1
  have hG3 := hG1
  have hP3 : PW g ad1 122 S1 H := hQ1.1
  have hS := hQ1.2
  have hP2 : PW g ad2 20 S2 H := pw_kept hP2 hk1 hne
  refine lv_pop hx hb dL_law_1623 rfl ?_
  refine lv_aload_n hx hb dL_law_1624 rfl (lv_at hl 2 rfl) ?_
  refine lv_aload_n hx hb dL_law_1625 rfl (lv_at hl 0 rfl) ?_
  refine lv_iload_n hx hb dL_law_1626 rfl (lv_at hl 3 rfl) ?_
  refine lv_iconst (v := 1) hx hb dL_law_1627 (by decide) ?_
  refine lv_iadd hx hb dL_law_1628 ?_
  refine sb_at (P := fun z => W _ _ _ _ _ _ _ _ _ _ _ _ _ _ _ (F0 _ _ _ (.int z :: _))) (nI_add i 1) ?_
  refine va_sld hx hb hX hbl hbA hS (vp_in_nI (show i + 1 < L by omega) (by omega)) dL_law_1629 ?_
  refine sb_at (P := fun z => W _ _ _ _ _ _ _ _ _ _ _ _ _ _ _ (F0 _ _ _ (.int z :: _))) (show xs (nI (i + 1)).toNatClampNeg = xs (i + 1) by rw [nI_clamp (by omega)]) ?_
  obtain ⟨hI2, t0, t1, t2, t3, at0, at1, at2, at3, ht0, ht1, ht2, ht3⟩ := id hG2
  obtain ⟨_, _, _, _, _, _, _, _, _, _, _, _, _, _, _, _, _, _, _, cc2, _, _, _, _, _, _, _, _, _⟩ := invM_0 hI2
  refine xcVi E ⟨hD2, hA2⟩ (⟨hP2, hS⟩ : Hp g ad2 20 S2 (fun q : Nat => s.heap.size ≤ q) s.heap H locs) hml hl.1 0 (gX12_set_0 l g ad2 hD2 S2 hI2 (xs (i + 1)) (by omega) (by omega) (by omega) (by omega) (by omega) at0) mX12_set q2096 (by decide) cc2 rfl rfl ⟨(Nat.le_of_ble_eq_true rfl), (Nat.le_of_ble_eq_true rfl)⟩ ⟨(Nat.le_of_ble_eq_true rfl), (Nat.le_of_ble_eq_true rfl)⟩ (Nat.le_of_ble_eq_true rfl) rfl dL_law_1630 (fun r2 S4 H locs hp2 hQ2 hk2 => ?_)
  obtain ⟨hI4, o2, bb2⟩ := hp2
  have hG4 : GM g ad2 S4 := ⟨hI4, (by rw [o2 6 (by decide), o2 7 (by decide)]; exact t0), (by rw [o2 6 (by decide), o2 7 (by decide)]; exact t1), (by rw [o2 6 (by decide), o2 7 (by decide)]; exact t2), (by rw [o2 6 (by decide), o2 7 (by decide)]; exact t3), (at_tr at0 (o2 7 (by decide)) (o2 12 (by decide))), (at_tr at1 (o2 7 (by decide)) (o2 12 (by decide))), (at_tr at2 (o2 7 (by decide)) (o2 12 (by decide))), (at_tr at3 (o2 7 (by decide)) (o2 12 (by decide))), (ht_tr ht0 (o2 7 (by decide)) (o2 9 (by decide))), (ht_tr ht1 (o2 7 (by decide)) (o2 9 (by decide))), (ht_tr ht2 (o2 7 (by decide)) (o2 9 (by decide))), (ht_tr ht3 (o2 7 (by decide)) (o2 9 (by decide)))⟩
  have hS := hQ2.2
  have hP4 : PW g ad2 20 S4 H := hQ2.1
  have hP3 : PW g ad1 122 S1 H := pw_kept hP3 hk2 (fun i j hi hj e => hne j i hj hi e.symm)
  have hR4 : RR S1 S4 := rr_eq hR rfl rfl rfl (o2 13 (by decide)) (o2 1 (by decide)) (o2 2 (by decide))
  refine lv_pop hx hb dL_law_1633 rfl ?_
  refine lv_goto (tgt := 2159) hx hb dL_law_1634 (by decide) ?_
  exact K S1 S4 H locs ls hG3 hG4 hR4 hP3 hP4 hS hl
set_option maxHeartbeats 4000000 in
set_option maxRecDepth 100000 in
theorem law_case_49 {p : Program} {l : Launch} {e : Env} {s : State} {m : MethodId} {below : List Frame} {meth : Method} {c : Code} {b L : Nat} {xs : Nat → Int32} (C0 : lw_At p s m meth c b L xs) {g : GG} {tt : TT} {ad1 ad2 : Nat → Nat} (hK : KK g s) (hT : TW tt (fun q : Nat => s.heap.size ≤ q) s s.heap) (hD1 : Dj ad1 122) (hD2 : Dj ad2 20) (hA1 : ∀ i, i < 122 → (fun q : Nat => s.heap.size ≤ q) (ad1 i)) (hA2 : ∀ i, i < 20 → (fun q : Nat => s.heap.size ≤ q) (ad2 i)) (hne : ∀ i j, i < 122 → j < 20 → ad1 i ≠ ad2 j) {i : Nat} (hi : i + 6 ≤ L) (hL : L ≤ 3072) {S1 S2 : SS} (hG1 : GX g ad1 S1) (hG2 : GM g ad2 S2) (hR : RR S1 S2) {H : Heap} {locs : List Loc} (hP1 : PW g ad1 122 S1 H) (hP2 : PW g ad2 20 S2 H) (hS : va_S (fun q : Nat => s.heap.size ≤ q) s.heap H locs) {ls : Array Slot} (hl : lv_has ls 4 [(0, .ref b), (1, .ref (ad1 0)), (2, .ref (ad2 0)), (3, .int (nI i))]) (K : (∀ (S1 S2 : SS) (H : Heap) (locs : List Loc) (ls : Array Slot), GX g ad1 S1 → GM g ad2 S2 → RR S1 S2 → PW g ad1 122 S1 H → PW g ad2 20 S2 H → va_S (fun q : Nat => s.heap.size ≤ q) s.heap H locs → lv_has ls 4 [(0, .ref b), (1, .ref (ad1 0)), (2, .ref (ad2 0)), (3, .int (nI i))] → W p l e room_1 s m #[Value.ref b] below meth c H locs 142 12631 (lw_Z below #[Value.ref b] s) (F0 m 2159 ls []))) : W p l e room_1 s m #[Value.ref b] below meth c H locs 142 12631 (lw_Z below #[Value.ref b] s) (F0 m 1637 ls []) := by
  obtain ⟨hx, hb, hr, hml, hown, hts, hX, hbl, hlocks, hgv⟩ := id C0
  have hbA : ¬ (fun q : Nat => s.heap.size ≤ q) b := Nat.not_le.mpr hbl
  have E : Ev p s m #[Value.ref b] c cL_law "EbbWreckLaw" g := ⟨hx, hb, hown, fun w h => hts w (List.mem_filter.mp h).1, hK⟩
  refine lv_aload_n hx hb dL_law_1637 rfl (lv_at hl 1 rfl) ?_
  refine lv_aload_n hx hb dL_law_1638 rfl (lv_at hl 0 rfl) ?_
  refine lv_iload_n hx hb dL_law_1639 rfl (lv_at hl 3 rfl) ?_
  refine lv_iconst (v := 1) hx hb dL_law_1640 (by decide) ?_
  refine lv_iadd hx hb dL_law_1641 ?_
  refine sb_at (P := fun z => W _ _ _ _ _ _ _ _ _ _ _ _ _ _ _ (F0 _ _ _ (.int z :: _))) (nI_add i 1) ?_
  refine va_sld hx hb hX hbl hbA hS (vp_in_nI (show i + 1 < L by omega) (by omega)) dL_law_1642 ?_
  refine sb_at (P := fun z => W _ _ _ _ _ _ _ _ _ _ _ _ _ _ _ (F0 _ _ _ (.int z :: _))) (show xs (nI (i + 1)).toNatClampNeg = xs (i + 1) by rw [nI_clamp (by omega)]) ?_
  refine lv_aload_n hx hb dL_law_1643 rfl (lv_at hl 0 rfl) ?_
  refine lv_iload_n hx hb dL_law_1644 rfl (lv_at hl 3 rfl) ?_
  refine lv_iconst (v := 2) hx hb dL_law_1645 (by decide) ?_
  refine lv_iadd hx hb dL_law_1646 ?_
  refine sb_at (P := fun z => W _ _ _ _ _ _ _ _ _ _ _ _ _ _ _ (F0 _ _ _ (.int z :: _))) (nI_add i 2) ?_
  refine va_sld hx hb hX hbl hbA hS (vp_in_nI (show i + 2 < L by omega) (by omega)) dL_law_1647 ?_
  refine sb_at (P := fun z => W _ _ _ _ _ _ _ _ _ _ _ _ _ _ _ (F0 _ _ _ (.int z :: _))) (show xs (nI (i + 2)).toNatClampNeg = xs (i + 2) by rw [nI_clamp (by omega)]) ?_
  obtain ⟨hI1, r2, r39, r57, r75, ar2, ar39, ar57, ar75⟩ := id hG1
  obtain ⟨_, _, _, cc1, _⟩ := invX_0 hI1
  refine xcVi E ⟨hD1, hA1⟩ (⟨hP1, hS⟩ : Hp g ad1 122 S1 (fun q : Nat => s.heap.size ≤ q) s.heap H locs) hml hl.1 0 (gX11_sit_0 l g ad1 hD1 S1 hI1 (xs (i + 1)) (xs (i + 2)) (by omega) (by omega) (by omega) ar2) mX11_sit q1341 (by decide) cc1 rfl rfl ⟨(Nat.le_of_ble_eq_true rfl), (Nat.le_of_ble_eq_true rfl)⟩ ⟨(Nat.le_of_ble_eq_true rfl), (Nat.le_of_ble_eq_true rfl)⟩ (Nat.le_of_ble_eq_true rfl) rfl dL_law_1648 (fun r1 S3 H locs hp1 hQ1 hk1 => ?_)
  obtain ⟨hI3, o1, bb1, u1_0⟩ := hp1
  have hG3 : GX g ad1 S3 := ⟨hI3, (by rw [o1 2 (by decide)]; exact r2), (by rw [o1 39 (by decide)]; exact r39), (by rw [o1 57 (by decide)]; exact r57), (by rw [o1 75 (by decide)]; exact r75), u1_0, (ar_tr ar39 (o1 53 (by decide)) (o1 54 (by decide)) (o1 55 (by decide)) (o1 56 (by decide))), (ar_tr ar57 (o1 71 (by decide)) (o1 72 (by decide)) (o1 73 (by decide)) (o1 74 (by decide))), (ar_tr ar75 (o1 89 (by decide)) (o1 90 (by decide)) (o1 91 (by decide)) (o1 92 (by decide)))⟩
  have hP3 : PW g ad1 122 S3 H := hQ1.1
  have hS := hQ1.2
  have hP2 : PW g ad2 20 S2 H := pw_kept hP2 hk1 hne
  refine lv_pop hx hb dL_law_1651 rfl ?_
  refine lv_aload_n hx hb dL_law_1652 rfl (lv_at hl 2 rfl) ?_
  refine lv_aload_n hx hb dL_law_1653 rfl (lv_at hl 0 rfl) ?_
  refine lv_iload_n hx hb dL_law_1654 rfl (lv_at hl 3 rfl) ?_
  refine lv_iconst (v := 1) hx hb dL_law_1655 (by decide) ?_
  refine lv_iadd hx hb dL_law_1656 ?_
  refine sb_at (P := fun z => W _ _ _ _ _ _ _ _ _ _ _ _ _ _ _ (F0 _ _ _ (.int z :: _))) (nI_add i 1) ?_
  refine va_sld hx hb hX hbl hbA hS (vp_in_nI (show i + 1 < L by omega) (by omega)) dL_law_1657 ?_
  refine sb_at (P := fun z => W _ _ _ _ _ _ _ _ _ _ _ _ _ _ _ (F0 _ _ _ (.int z :: _))) (show xs (nI (i + 1)).toNatClampNeg = xs (i + 1) by rw [nI_clamp (by omega)]) ?_
  refine lv_aload_n hx hb dL_law_1658 rfl (lv_at hl 0 rfl) ?_
  refine lv_iload_n hx hb dL_law_1659 rfl (lv_at hl 3 rfl) ?_
  refine lv_iconst (v := 2) hx hb dL_law_1660 (by decide) ?_
  refine lv_iadd hx hb dL_law_1661 ?_
  refine sb_at (P := fun z => W _ _ _ _ _ _ _ _ _ _ _ _ _ _ _ (F0 _ _ _ (.int z :: _))) (nI_add i 2) ?_
  refine va_sld hx hb hX hbl hbA hS (vp_in_nI (show i + 2 < L by omega) (by omega)) dL_law_1662 ?_
  refine sb_at (P := fun z => W _ _ _ _ _ _ _ _ _ _ _ _ _ _ _ (F0 _ _ _ (.int z :: _))) (show xs (nI (i + 2)).toNatClampNeg = xs (i + 2) by rw [nI_clamp (by omega)]) ?_
  obtain ⟨hI2, t0, t1, t2, t3, at0, at1, at2, at3, ht0, ht1, ht2, ht3⟩ := id hG2
  obtain ⟨_, _, _, _, _, _, _, _, _, _, _, _, _, _, _, _, _, _, _, cc2, _, _, _, _, _, _, _, _, _⟩ := invM_0 hI2
  refine xcVi E ⟨hD2, hA2⟩ (⟨hP2, hS⟩ : Hp g ad2 20 S2 (fun q : Nat => s.heap.size ≤ q) s.heap H locs) hml hl.1 0 (gX12_sit_0 l g ad2 hD2 S2 hI2 (xs (i + 1)) (xs (i + 2)) (by omega) (by omega) (by omega) (by omega) (by omega) (by omega) (by omega) (by omega) (by omega) (by omega) (by omega) (by omega) (by omega) (by omega) (by omega) (by omega) (by omega) (by omega) (by omega) (by omega) at0 at1 at2 at3) mX12_sit q2100 (by decide) cc2 rfl rfl ⟨(Nat.le_of_ble_eq_true rfl), (Nat.le_of_ble_eq_true rfl)⟩ ⟨(Nat.le_of_ble_eq_true rfl), (Nat.le_of_ble_eq_true rfl)⟩ (Nat.le_of_ble_eq_true rfl) rfl dL_law_1663 (fun r2 S4 H locs hp2 hQ2 hk2 => ?_)
  obtain ⟨hI4, o2, bb2, g2_0, g2_1, g2_2, g2_3, g2_4, g2_5, g2_6, g2_7, g2_8, g2_9, g2_10, g2_11, g2_12, g2_13, g2_14, g2_15, g2_16, g2_17, g2_18, g2_19, g2_20, g2_21, g2_22, g2_23, g2_24, g2_25, g2_26, g2_27, u2_0, u2_1, u2_2, u2_3⟩ := hp2
  have hG4 : GM g ad2 S4 := ⟨hI4, ⟨by omega, by omega, by omega, by omega, by omega⟩, ⟨by omega, by omega, by omega, by omega, by omega⟩, ⟨by omega, by omega, by omega, by omega, by omega⟩, ⟨by omega, by omega, by omega, by omega, by omega⟩, u2_0, u2_1, u2_2, u2_3, (ht_fr ht0 (by show elm _ 0 = elm _ 0; omega) (by show elm _ 6 = elm _ 6; omega) (o2 9 (by decide))), (ht_fr ht1 (by show elm _ 10 = elm _ 10; omega) (by show elm _ 16 = elm _ 16; omega) (o2 9 (by decide))), (ht_fr ht2 (by show elm _ 20 = elm _ 20; omega) (by show elm _ 26 = elm _ 26; omega) (o2 9 (by decide))), (ht_fr ht3 (by show elm _ 30 = elm _ 30; omega) (by show elm _ 36 = elm _ 36; omega) (o2 9 (by decide)))⟩
  have hS := hQ2.2
  have hP4 : PW g ad2 20 S4 H := hQ2.1
  have hP3 : PW g ad1 122 S3 H := pw_kept hP3 hk2 (fun i j hi hj e => hne j i hj hi e.symm)
  have hR4 : RR S3 S4 := rr_eq hR (o1 93 (by decide)) (o1 117 (by decide)) (o1 118 (by decide)) (o2 13 (by decide)) (o2 1 (by decide)) (o2 2 (by decide))
  refine lv_pop hx hb dL_law_1666 rfl ?_
  refine lv_goto (tgt := 2159) hx hb dL_law_1667 (by decide) ?_
  exact K S3 S4 H locs ls hG3 hG4 hR4 hP3 hP4 hS hl
set_option maxHeartbeats 4000000 in
set_option maxRecDepth 100000 in
theorem law_case_50 {p : Program} {l : Launch} {e : Env} {s : State} {m : MethodId} {below : List Frame} {meth : Method} {c : Code} {b L : Nat} {xs : Nat → Int32} (C0 : lw_At p s m meth c b L xs) {g : GG} {tt : TT} {ad1 ad2 : Nat → Nat} (hK : KK g s) (hT : TW tt (fun q : Nat => s.heap.size ≤ q) s s.heap) (hD1 : Dj ad1 122) (hD2 : Dj ad2 20) (hA1 : ∀ i, i < 122 → (fun q : Nat => s.heap.size ≤ q) (ad1 i)) (hA2 : ∀ i, i < 20 → (fun q : Nat => s.heap.size ≤ q) (ad2 i)) (hne : ∀ i j, i < 122 → j < 20 → ad1 i ≠ ad2 j) {i : Nat} (hi : i + 6 ≤ L) (hL : L ≤ 3072) {S1 S2 : SS} (hG1 : GX g ad1 S1) (hG2 : GM g ad2 S2) (hR : RR S1 S2) {H : Heap} {locs : List Loc} (hP1 : PW g ad1 122 S1 H) (hP2 : PW g ad2 20 S2 H) (hS : va_S (fun q : Nat => s.heap.size ≤ q) s.heap H locs) {ls : Array Slot} (hl : lv_has ls 4 [(0, .ref b), (1, .ref (ad1 0)), (2, .ref (ad2 0)), (3, .int (nI i))]) (K : (∀ (S1 S2 : SS) (H : Heap) (locs : List Loc) (ls : Array Slot), GX g ad1 S1 → GM g ad2 S2 → RR S1 S2 → PW g ad1 122 S1 H → PW g ad2 20 S2 H → va_S (fun q : Nat => s.heap.size ≤ q) s.heap H locs → lv_has ls 4 [(0, .ref b), (1, .ref (ad1 0)), (2, .ref (ad2 0)), (3, .int (nI i))] → W p l e room_1 s m #[Value.ref b] below meth c H locs 142 12631 (lw_Z below #[Value.ref b] s) (F0 m 2159 ls []))) : W p l e room_1 s m #[Value.ref b] below meth c H locs 142 12631 (lw_Z below #[Value.ref b] s) (F0 m 1670 ls []) := by
  obtain ⟨hx, hb, hr, hml, hown, hts, hX, hbl, hlocks, hgv⟩ := id C0
  have hbA : ¬ (fun q : Nat => s.heap.size ≤ q) b := Nat.not_le.mpr hbl
  have E : Ev p s m #[Value.ref b] c cL_law "EbbWreckLaw" g := ⟨hx, hb, hown, fun w h => hts w (List.mem_filter.mp h).1, hK⟩
  refine lv_aload_n hx hb dL_law_1670 rfl (lv_at hl 1 rfl) ?_
  refine lv_aload_n hx hb dL_law_1671 rfl (lv_at hl 0 rfl) ?_
  refine lv_iload_n hx hb dL_law_1672 rfl (lv_at hl 3 rfl) ?_
  refine lv_iconst (v := 1) hx hb dL_law_1673 (by decide) ?_
  refine lv_iadd hx hb dL_law_1674 ?_
  refine sb_at (P := fun z => W _ _ _ _ _ _ _ _ _ _ _ _ _ _ _ (F0 _ _ _ (.int z :: _))) (nI_add i 1) ?_
  refine va_sld hx hb hX hbl hbA hS (vp_in_nI (show i + 1 < L by omega) (by omega)) dL_law_1675 ?_
  refine sb_at (P := fun z => W _ _ _ _ _ _ _ _ _ _ _ _ _ _ _ (F0 _ _ _ (.int z :: _))) (show xs (nI (i + 1)).toNatClampNeg = xs (i + 1) by rw [nI_clamp (by omega)]) ?_
  refine lv_aload_n hx hb dL_law_1676 rfl (lv_at hl 0 rfl) ?_
  refine lv_iload_n hx hb dL_law_1677 rfl (lv_at hl 3 rfl) ?_
  refine lv_iconst (v := 2) hx hb dL_law_1678 (by decide) ?_
  refine lv_iadd hx hb dL_law_1679 ?_
  refine sb_at (P := fun z => W _ _ _ _ _ _ _ _ _ _ _ _ _ _ _ (F0 _ _ _ (.int z :: _))) (nI_add i 2) ?_
  refine va_sld hx hb hX hbl hbA hS (vp_in_nI (show i + 2 < L by omega) (by omega)) dL_law_1680 ?_
  refine sb_at (P := fun z => W _ _ _ _ _ _ _ _ _ _ _ _ _ _ _ (F0 _ _ _ (.int z :: _))) (show xs (nI (i + 2)).toNatClampNeg = xs (i + 2) by rw [nI_clamp (by omega)]) ?_
  refine lv_aload_n hx hb dL_law_1681 rfl (lv_at hl 0 rfl) ?_
  refine lv_iload_n hx hb dL_law_1682 rfl (lv_at hl 3 rfl) ?_
  refine lv_iconst (v := 3) hx hb dL_law_1683 (by decide) ?_
  refine lv_iadd hx hb dL_law_1684 ?_
  refine sb_at (P := fun z => W _ _ _ _ _ _ _ _ _ _ _ _ _ _ _ (F0 _ _ _ (.int z :: _))) (nI_add i 3) ?_
  refine va_sld hx hb hX hbl hbA hS (vp_in_nI (show i + 3 < L by omega) (by omega)) dL_law_1685 ?_
  refine sb_at (P := fun z => W _ _ _ _ _ _ _ _ _ _ _ _ _ _ _ (F0 _ _ _ (.int z :: _))) (show xs (nI (i + 3)).toNatClampNeg = xs (i + 3) by rw [nI_clamp (by omega)]) ?_
  obtain ⟨hI1, r2, r39, r57, r75, ar2, ar39, ar57, ar75⟩ := id hG1
  obtain ⟨_, _, _, cc1, _⟩ := invX_0 hI1
  refine xcVi E ⟨hD1, hA1⟩ (⟨hP1, hS⟩ : Hp g ad1 122 S1 (fun q : Nat => s.heap.size ≤ q) s.heap H locs) hml hl.1 0 (gX11_shove_0 l g ad1 hD1 S1 hI1 (xs (i + 1)) (xs (i + 2)) (xs (i + 3)) (by omega) (by omega) (by omega) ar2) mX11_shove q1358 (by decide) cc1 rfl rfl ⟨(Nat.le_of_ble_eq_true rfl), (Nat.le_of_ble_eq_true rfl)⟩ ⟨(Nat.le_of_ble_eq_true rfl), (Nat.le_of_ble_eq_true rfl)⟩ (Nat.le_of_ble_eq_true rfl) rfl dL_law_1686 (fun r1 S3 H locs hp1 hQ1 hk1 => ?_)
  obtain ⟨hI3, o1, u1_0⟩ := hp1
  have hG3 : GX g ad1 S3 := ⟨hI3, (by rw [o1 2 (by decide)]; exact r2), (by rw [o1 39 (by decide)]; exact r39), (by rw [o1 57 (by decide)]; exact r57), (by rw [o1 75 (by decide)]; exact r75), u1_0, (ar_tr ar39 (o1 53 (by decide)) (o1 54 (by decide)) (o1 55 (by decide)) (o1 56 (by decide))), (ar_tr ar57 (o1 71 (by decide)) (o1 72 (by decide)) (o1 73 (by decide)) (o1 74 (by decide))), (ar_tr ar75 (o1 89 (by decide)) (o1 90 (by decide)) (o1 91 (by decide)) (o1 92 (by decide)))⟩
  have hP3 : PW g ad1 122 S3 H := hQ1.1
  have hS := hQ1.2
  have hP2 : PW g ad2 20 S2 H := pw_kept hP2 hk1 hne
  refine lv_pop hx hb dL_law_1689 rfl ?_
  refine lv_aload_n hx hb dL_law_1690 rfl (lv_at hl 2 rfl) ?_
  refine lv_aload_n hx hb dL_law_1691 rfl (lv_at hl 0 rfl) ?_
  refine lv_iload_n hx hb dL_law_1692 rfl (lv_at hl 3 rfl) ?_
  refine lv_iconst (v := 1) hx hb dL_law_1693 (by decide) ?_
  refine lv_iadd hx hb dL_law_1694 ?_
  refine sb_at (P := fun z => W _ _ _ _ _ _ _ _ _ _ _ _ _ _ _ (F0 _ _ _ (.int z :: _))) (nI_add i 1) ?_
  refine va_sld hx hb hX hbl hbA hS (vp_in_nI (show i + 1 < L by omega) (by omega)) dL_law_1695 ?_
  refine sb_at (P := fun z => W _ _ _ _ _ _ _ _ _ _ _ _ _ _ _ (F0 _ _ _ (.int z :: _))) (show xs (nI (i + 1)).toNatClampNeg = xs (i + 1) by rw [nI_clamp (by omega)]) ?_
  refine lv_aload_n hx hb dL_law_1696 rfl (lv_at hl 0 rfl) ?_
  refine lv_iload_n hx hb dL_law_1697 rfl (lv_at hl 3 rfl) ?_
  refine lv_iconst (v := 2) hx hb dL_law_1698 (by decide) ?_
  refine lv_iadd hx hb dL_law_1699 ?_
  refine sb_at (P := fun z => W _ _ _ _ _ _ _ _ _ _ _ _ _ _ _ (F0 _ _ _ (.int z :: _))) (nI_add i 2) ?_
  refine va_sld hx hb hX hbl hbA hS (vp_in_nI (show i + 2 < L by omega) (by omega)) dL_law_1700 ?_
  refine sb_at (P := fun z => W _ _ _ _ _ _ _ _ _ _ _ _ _ _ _ (F0 _ _ _ (.int z :: _))) (show xs (nI (i + 2)).toNatClampNeg = xs (i + 2) by rw [nI_clamp (by omega)]) ?_
  refine lv_aload_n hx hb dL_law_1701 rfl (lv_at hl 0 rfl) ?_
  refine lv_iload_n hx hb dL_law_1702 rfl (lv_at hl 3 rfl) ?_
  refine lv_iconst (v := 3) hx hb dL_law_1703 (by decide) ?_
  refine lv_iadd hx hb dL_law_1704 ?_
  refine sb_at (P := fun z => W _ _ _ _ _ _ _ _ _ _ _ _ _ _ _ (F0 _ _ _ (.int z :: _))) (nI_add i 3) ?_
  refine va_sld hx hb hX hbl hbA hS (vp_in_nI (show i + 3 < L by omega) (by omega)) dL_law_1705 ?_
  refine sb_at (P := fun z => W _ _ _ _ _ _ _ _ _ _ _ _ _ _ _ (F0 _ _ _ (.int z :: _))) (show xs (nI (i + 3)).toNatClampNeg = xs (i + 3) by rw [nI_clamp (by omega)]) ?_
  obtain ⟨hI2, t0, t1, t2, t3, at0, at1, at2, at3, ht0, ht1, ht2, ht3⟩ := id hG2
  obtain ⟨_, _, _, _, _, _, _, _, _, _, _, _, _, _, _, _, _, _, _, cc2, _, _, _, _, _, _, _, _, _⟩ := invM_0 hI2
  refine xcVi E ⟨hD2, hA2⟩ (⟨hP2, hS⟩ : Hp g ad2 20 S2 (fun q : Nat => s.heap.size ≤ q) s.heap H locs) hml hl.1 0 (gX12_shove_0 l g ad2 hD2 S2 hI2 (xs (i + 1)) (xs (i + 2)) (xs (i + 3)) (by omega) (by omega) (by omega) (by omega) (by omega) (by omega) (by omega) (by omega) (by omega) (by omega) (by omega) (by omega) (by omega) (by omega) (by omega) (by omega) (by omega) (by omega) (by omega) (by omega) at0 at1 at2 at3) mX12_shove q2112 (by decide) cc2 rfl rfl ⟨(Nat.le_of_ble_eq_true rfl), (Nat.le_of_ble_eq_true rfl)⟩ ⟨(Nat.le_of_ble_eq_true rfl), (Nat.le_of_ble_eq_true rfl)⟩ (Nat.le_of_ble_eq_true rfl) rfl dL_law_1706 (fun r2 S4 H locs hp2 hQ2 hk2 => ?_)
  obtain ⟨hI4, o2, g2_0, g2_1, g2_2, g2_3, g2_4, g2_5, g2_6, g2_7, g2_8, g2_9, g2_10, g2_11, g2_12, g2_13, g2_14, g2_15, g2_16, g2_17, g2_18, g2_19, g2_20, g2_21, g2_22, g2_23, g2_24, g2_25, g2_26, g2_27, u2_0, u2_1, u2_2, u2_3⟩ := hp2
  have hG4 : GM g ad2 S4 := ⟨hI4, ⟨by omega, by omega, by omega, by omega, by omega⟩, ⟨by omega, by omega, by omega, by omega, by omega⟩, ⟨by omega, by omega, by omega, by omega, by omega⟩, ⟨by omega, by omega, by omega, by omega, by omega⟩, u2_0, u2_1, u2_2, u2_3, (ht_fr ht0 (by show elm _ 0 = elm _ 0; omega) (by show elm _ 6 = elm _ 6; omega) (o2 9 (by decide))), (ht_fr ht1 (by show elm _ 10 = elm _ 10; omega) (by show elm _ 16 = elm _ 16; omega) (o2 9 (by decide))), (ht_fr ht2 (by show elm _ 20 = elm _ 20; omega) (by show elm _ 26 = elm _ 26; omega) (o2 9 (by decide))), (ht_fr ht3 (by show elm _ 30 = elm _ 30; omega) (by show elm _ 36 = elm _ 36; omega) (o2 9 (by decide)))⟩
  have hS := hQ2.2
  have hP4 : PW g ad2 20 S4 H := hQ2.1
  have hP3 : PW g ad1 122 S3 H := pw_kept hP3 hk2 (fun i j hi hj e => hne j i hj hi e.symm)
  have hR4 : RR S3 S4 := rr_eq hR (o1 93 (by decide)) (o1 117 (by decide)) (o1 118 (by decide)) (o2 13 (by decide)) (o2 1 (by decide)) (o2 2 (by decide))
  refine lv_pop hx hb dL_law_1709 rfl ?_
  refine lv_goto (tgt := 2159) hx hb dL_law_1710 (by decide) ?_
  exact K S3 S4 H locs ls hG3 hG4 hR4 hP3 hP4 hS hl
set_option maxHeartbeats 4000000 in
set_option maxRecDepth 100000 in
theorem law_case_51 {p : Program} {l : Launch} {e : Env} {s : State} {m : MethodId} {below : List Frame} {meth : Method} {c : Code} {b L : Nat} {xs : Nat → Int32} (C0 : lw_At p s m meth c b L xs) {g : GG} {tt : TT} {ad1 ad2 : Nat → Nat} (hK : KK g s) (hT : TW tt (fun q : Nat => s.heap.size ≤ q) s s.heap) (hD1 : Dj ad1 122) (hD2 : Dj ad2 20) (hA1 : ∀ i, i < 122 → (fun q : Nat => s.heap.size ≤ q) (ad1 i)) (hA2 : ∀ i, i < 20 → (fun q : Nat => s.heap.size ≤ q) (ad2 i)) (hne : ∀ i j, i < 122 → j < 20 → ad1 i ≠ ad2 j) {i : Nat} (hi : i + 6 ≤ L) (hL : L ≤ 3072) {S1 S2 : SS} (hG1 : GX g ad1 S1) (hG2 : GM g ad2 S2) (hR : RR S1 S2) {H : Heap} {locs : List Loc} (hP1 : PW g ad1 122 S1 H) (hP2 : PW g ad2 20 S2 H) (hS : va_S (fun q : Nat => s.heap.size ≤ q) s.heap H locs) {ls : Array Slot} (hl : lv_has ls 4 [(0, .ref b), (1, .ref (ad1 0)), (2, .ref (ad2 0)), (3, .int (nI i))]) (K : (∀ (S1 S2 : SS) (H : Heap) (locs : List Loc) (ls : Array Slot), GX g ad1 S1 → GM g ad2 S2 → RR S1 S2 → PW g ad1 122 S1 H → PW g ad2 20 S2 H → va_S (fun q : Nat => s.heap.size ≤ q) s.heap H locs → lv_has ls 4 [(0, .ref b), (1, .ref (ad1 0)), (2, .ref (ad2 0)), (3, .int (nI i))] → W p l e room_1 s m #[Value.ref b] below meth c H locs 142 12631 (lw_Z below #[Value.ref b] s) (F0 m 2159 ls []))) : W p l e room_1 s m #[Value.ref b] below meth c H locs 142 12631 (lw_Z below #[Value.ref b] s) (F0 m 1713 ls []) := by
  obtain ⟨hx, hb, hr, hml, hown, hts, hX, hbl, hlocks, hgv⟩ := id C0
  have hbA : ¬ (fun q : Nat => s.heap.size ≤ q) b := Nat.not_le.mpr hbl
  have E : Ev p s m #[Value.ref b] c cL_law "EbbWreckLaw" g := ⟨hx, hb, hown, fun w h => hts w (List.mem_filter.mp h).1, hK⟩
  refine lv_aload_n hx hb dL_law_1713 rfl (lv_at hl 1 rfl) ?_
  obtain ⟨hI1, r2, r39, r57, r75, ar2, ar39, ar57, ar75⟩ := id hG1
  obtain ⟨_, _, _, cc1, _⟩ := invX_0 hI1
  refine xcVi E ⟨hD1, hA1⟩ (⟨hP1, hS⟩ : Hp g ad1 122 S1 (fun q : Nat => s.heap.size ≤ q) s.heap H locs) hml hl.1 0 (gX11_undo_0 l g ad1 hD1 S1 hI1 (by omega) (by omega) (by omega) ar2) mX11_undo q1376 (by decide) cc1 rfl rfl ⟨(Nat.le_of_ble_eq_true rfl), (Nat.le_of_ble_eq_true rfl)⟩ ⟨(Nat.le_of_ble_eq_true rfl), (Nat.le_of_ble_eq_true rfl)⟩ (Nat.le_of_ble_eq_true rfl) rfl dL_law_1714 (fun r1 S3 H locs hp1 hQ1 hk1 => ?_)
  obtain ⟨hI3, o1, bb1, u1_0⟩ := hp1
  have hG3 : GX g ad1 S3 := ⟨hI3, (by rw [o1 2 (by decide)]; exact r2), (by rw [o1 39 (by decide)]; exact r39), (by rw [o1 57 (by decide)]; exact r57), (by rw [o1 75 (by decide)]; exact r75), u1_0, (ar_tr ar39 (o1 53 (by decide)) (o1 54 (by decide)) (o1 55 (by decide)) (o1 56 (by decide))), (ar_tr ar57 (o1 71 (by decide)) (o1 72 (by decide)) (o1 73 (by decide)) (o1 74 (by decide))), (ar_tr ar75 (o1 89 (by decide)) (o1 90 (by decide)) (o1 91 (by decide)) (o1 92 (by decide)))⟩
  have hP3 : PW g ad1 122 S3 H := hQ1.1
  have hS := hQ1.2
  have hP2 : PW g ad2 20 S2 H := pw_kept hP2 hk1 hne
  refine lv_pop hx hb dL_law_1717 rfl ?_
  refine lv_aload_n hx hb dL_law_1718 rfl (lv_at hl 2 rfl) ?_
  obtain ⟨hI2, t0, t1, t2, t3, at0, at1, at2, at3, ht0, ht1, ht2, ht3⟩ := id hG2
  have h9 := gm9 hI2
  obtain ⟨_, _, _, _, _, _, _, _, _, _, _, _, _, _, _, _, _, _, _, cc2, _, _, _, _, _, _, _, _, _⟩ := invM_0 hI2
  refine xcVi E ⟨hD2, hA2⟩ (⟨hP2, hS⟩ : Hp g ad2 20 S2 (fun q : Nat => s.heap.size ≤ q) s.heap H locs) hml hl.1 0 (gX12_undo_0 l g ad2 hD2 S2 hI2 (by omega) (by omega) (by omega) (by omega) (by omega) (by omega) (by omega) (by omega) (by omega) (by omega) (by omega) (by omega) (by omega) (by omega) (by omega) (by omega) (by omega) (by omega) (by omega) (by omega) (by omega) (by omega) (by omega) (by omega) at0 at1 at2 at3) mX12_undo q2116 (by decide) cc2 rfl rfl ⟨(Nat.le_of_ble_eq_true rfl), (Nat.le_of_ble_eq_true rfl)⟩ ⟨(Nat.le_of_ble_eq_true rfl), (Nat.le_of_ble_eq_true rfl)⟩ (Nat.le_of_ble_eq_true rfl) rfl dL_law_1719 (fun r2 S4 H locs hp2 hQ2 hk2 => ?_)
  obtain ⟨hI4, o2, bb2, g2_0, g2_1, g2_2, g2_3, g2_4, g2_5, g2_6, g2_7, g2_8, g2_9, g2_10, g2_11, g2_12, g2_13, g2_14, g2_15, g2_16, g2_17, g2_18, g2_19, g2_20, g2_21, g2_22, g2_23, g2_24, g2_25, g2_26, g2_27, u2_0, u2_1, u2_2, u2_3⟩ := hp2
  have hG4 : GM g ad2 S4 := ⟨hI4, ⟨by omega, by omega, by omega, by omega, by omega⟩, ⟨by omega, by omega, by omega, by omega, by omega⟩, ⟨by omega, by omega, by omega, by omega, by omega⟩, ⟨by omega, by omega, by omega, by omega, by omega⟩, u2_0, u2_1, u2_2, u2_3, (ht_fr ht0 (by show elm _ 0 = elm _ 0; omega) (by show elm _ 6 = elm _ 6; omega) (o2 9 (by decide))), (ht_fr ht1 (by show elm _ 10 = elm _ 10; omega) (by show elm _ 16 = elm _ 16; omega) (o2 9 (by decide))), (ht_fr ht2 (by show elm _ 20 = elm _ 20; omega) (by show elm _ 26 = elm _ 26; omega) (o2 9 (by decide))), (ht_fr ht3 (by show elm _ 30 = elm _ 30; omega) (by show elm _ 36 = elm _ 36; omega) (o2 9 (by decide)))⟩
  have hS := hQ2.2
  have hP4 : PW g ad2 20 S4 H := hQ2.1
  have hP3 : PW g ad1 122 S3 H := pw_kept hP3 hk2 (fun i j hi hj e => hne j i hj hi e.symm)
  have hR4 : RR S3 S4 := rr_eq hR (o1 93 (by decide)) (o1 117 (by decide)) (o1 118 (by decide)) (o2 13 (by decide)) (o2 1 (by decide)) (o2 2 (by decide))
  refine lv_pop hx hb dL_law_1722 rfl ?_
  refine lv_goto (tgt := 2159) hx hb dL_law_1723 (by decide) ?_
  exact K S3 S4 H locs ls hG3 hG4 hR4 hP3 hP4 hS hl
set_option maxHeartbeats 4000000 in
set_option maxRecDepth 100000 in
theorem law_case_52 {p : Program} {l : Launch} {e : Env} {s : State} {m : MethodId} {below : List Frame} {meth : Method} {c : Code} {b L : Nat} {xs : Nat → Int32} (C0 : lw_At p s m meth c b L xs) {g : GG} {tt : TT} {ad1 ad2 : Nat → Nat} (hK : KK g s) (hT : TW tt (fun q : Nat => s.heap.size ≤ q) s s.heap) (hD1 : Dj ad1 122) (hD2 : Dj ad2 20) (hA1 : ∀ i, i < 122 → (fun q : Nat => s.heap.size ≤ q) (ad1 i)) (hA2 : ∀ i, i < 20 → (fun q : Nat => s.heap.size ≤ q) (ad2 i)) (hne : ∀ i j, i < 122 → j < 20 → ad1 i ≠ ad2 j) {i : Nat} (hi : i + 6 ≤ L) (hL : L ≤ 3072) {S1 S2 : SS} (hG1 : GX g ad1 S1) (hG2 : GM g ad2 S2) (hR : RR S1 S2) {H : Heap} {locs : List Loc} (hP1 : PW g ad1 122 S1 H) (hP2 : PW g ad2 20 S2 H) (hS : va_S (fun q : Nat => s.heap.size ≤ q) s.heap H locs) {ls : Array Slot} (hl : lv_has ls 4 [(0, .ref b), (1, .ref (ad1 0)), (2, .ref (ad2 0)), (3, .int (nI i))]) (K : (∀ (S1 S2 : SS) (H : Heap) (locs : List Loc) (ls : Array Slot), GX g ad1 S1 → GM g ad2 S2 → RR S1 S2 → PW g ad1 122 S1 H → PW g ad2 20 S2 H → va_S (fun q : Nat => s.heap.size ≤ q) s.heap H locs → lv_has ls 4 [(0, .ref b), (1, .ref (ad1 0)), (2, .ref (ad2 0)), (3, .int (nI i))] → W p l e room_1 s m #[Value.ref b] below meth c H locs 142 12631 (lw_Z below #[Value.ref b] s) (F0 m 2159 ls []))) : W p l e room_1 s m #[Value.ref b] below meth c H locs 142 12631 (lw_Z below #[Value.ref b] s) (F0 m 1726 ls []) := by
  obtain ⟨hx, hb, hr, hml, hown, hts, hX, hbl, hlocks, hgv⟩ := id C0
  have hbA : ¬ (fun q : Nat => s.heap.size ≤ q) b := Nat.not_le.mpr hbl
  have E : Ev p s m #[Value.ref b] c cL_law "EbbWreckLaw" g := ⟨hx, hb, hown, fun w h => hts w (List.mem_filter.mp h).1, hK⟩
  refine lv_aload_n hx hb dL_law_1726 rfl (lv_at hl 1 rfl) ?_
  obtain ⟨hI1, r2, r39, r57, r75, ar2, ar39, ar57, ar75⟩ := id hG1
  obtain ⟨_, _, _, cc1, _⟩ := invX_0 hI1
  refine xcVi E ⟨hD1, hA1⟩ (⟨hP1, hS⟩ : Hp g ad1 122 S1 (fun q : Nat => s.heap.size ≤ q) s.heap H locs) hml hl.1 0 (gX11_anew_0 l g ad1 hD1 S1 hI1 (by omega) (by omega) (by omega) ar2) mX11_anew q1384 (by decide) cc1 rfl rfl ⟨(Nat.le_of_ble_eq_true rfl), (Nat.le_of_ble_eq_true rfl)⟩ ⟨(Nat.le_of_ble_eq_true rfl), (Nat.le_of_ble_eq_true rfl)⟩ (Nat.le_of_ble_eq_true rfl) rfl dL_law_1727 (fun r1 S3 H locs hp1 hQ1 hk1 => ?_)
  obtain ⟨hI3, o1, bb1, u1_0⟩ := hp1
  have hG3 : GX g ad1 S3 := ⟨hI3, (by rw [o1 2 (by decide)]; exact r2), (by rw [o1 39 (by decide)]; exact r39), (by rw [o1 57 (by decide)]; exact r57), (by rw [o1 75 (by decide)]; exact r75), u1_0, (ar_tr ar39 (o1 53 (by decide)) (o1 54 (by decide)) (o1 55 (by decide)) (o1 56 (by decide))), (ar_tr ar57 (o1 71 (by decide)) (o1 72 (by decide)) (o1 73 (by decide)) (o1 74 (by decide))), (ar_tr ar75 (o1 89 (by decide)) (o1 90 (by decide)) (o1 91 (by decide)) (o1 92 (by decide)))⟩
  have hP3 : PW g ad1 122 S3 H := hQ1.1
  have hS := hQ1.2
  have hP2 : PW g ad2 20 S2 H := pw_kept hP2 hk1 hne
  refine lv_pop hx hb dL_law_1730 rfl ?_
  refine lv_aload_n hx hb dL_law_1731 rfl (lv_at hl 2 rfl) ?_
  obtain ⟨hI2, t0, t1, t2, t3, at0, at1, at2, at3, ht0, ht1, ht2, ht3⟩ := id hG2
  have h9 := gm9 hI2
  obtain ⟨_, _, _, _, _, _, _, _, _, _, _, _, _, _, _, _, _, _, _, cc2, _, _, _, _, _, _, _, _, _⟩ := invM_0 hI2
  refine xcVi E ⟨hD2, hA2⟩ (⟨hP2, hS⟩ : Hp g ad2 20 S2 (fun q : Nat => s.heap.size ≤ q) s.heap H locs) hml hl.1 0 (gX12_anew_0 l g ad2 hD2 S2 hI2 (by omega) (by omega) (by omega) (by omega) (by omega) (by omega) (by omega) (by omega) (by omega) (by omega) (by omega) (by omega) (by omega) (by omega) (by omega) (by omega) (by omega) (by omega) (by omega) (by omega) (by omega) (by omega) (by omega) (by omega) at0 at1 at2 at3) mX12_anew q2120 (by decide) cc2 rfl rfl ⟨(Nat.le_of_ble_eq_true rfl), (Nat.le_of_ble_eq_true rfl)⟩ ⟨(Nat.le_of_ble_eq_true rfl), (Nat.le_of_ble_eq_true rfl)⟩ (Nat.le_of_ble_eq_true rfl) rfl dL_law_1732 (fun r2 S4 H locs hp2 hQ2 hk2 => ?_)
  obtain ⟨hI4, o2, bb2, g2_0, g2_1, g2_2, g2_3, g2_4, g2_5, g2_6, g2_7, g2_8, g2_9, g2_10, g2_11, g2_12, g2_13, g2_14, g2_15, g2_16, g2_17, g2_18, g2_19, g2_20, g2_21, g2_22, g2_23, g2_24, g2_25, g2_26, g2_27, u2_0, u2_1, u2_2, u2_3⟩ := hp2
  have hG4 : GM g ad2 S4 := ⟨hI4, ⟨by omega, by omega, by omega, by omega, by omega⟩, ⟨by omega, by omega, by omega, by omega, by omega⟩, ⟨by omega, by omega, by omega, by omega, by omega⟩, ⟨by omega, by omega, by omega, by omega, by omega⟩, u2_0, u2_1, u2_2, u2_3, (ht_fr ht0 (by show elm _ 0 = elm _ 0; omega) (by show elm _ 6 = elm _ 6; omega) (o2 9 (by decide))), (ht_fr ht1 (by show elm _ 10 = elm _ 10; omega) (by show elm _ 16 = elm _ 16; omega) (o2 9 (by decide))), (ht_fr ht2 (by show elm _ 20 = elm _ 20; omega) (by show elm _ 26 = elm _ 26; omega) (o2 9 (by decide))), (ht_fr ht3 (by show elm _ 30 = elm _ 30; omega) (by show elm _ 36 = elm _ 36; omega) (o2 9 (by decide)))⟩
  have hS := hQ2.2
  have hP4 : PW g ad2 20 S4 H := hQ2.1
  have hP3 : PW g ad1 122 S3 H := pw_kept hP3 hk2 (fun i j hi hj e => hne j i hj hi e.symm)
  have hR4 : RR S3 S4 := rr_eq hR (o1 93 (by decide)) (o1 117 (by decide)) (o1 118 (by decide)) (o2 13 (by decide)) (o2 1 (by decide)) (o2 2 (by decide))
  refine lv_pop hx hb dL_law_1735 rfl ?_
  refine lv_goto (tgt := 2159) hx hb dL_law_1736 (by decide) ?_
  exact K S3 S4 H locs ls hG3 hG4 hR4 hP3 hP4 hS hl
set_option maxHeartbeats 4000000 in
set_option maxRecDepth 100000 in
theorem law_case_53 {p : Program} {l : Launch} {e : Env} {s : State} {m : MethodId} {below : List Frame} {meth : Method} {c : Code} {b L : Nat} {xs : Nat → Int32} (C0 : lw_At p s m meth c b L xs) {g : GG} {tt : TT} {ad1 ad2 : Nat → Nat} (hK : KK g s) (hT : TW tt (fun q : Nat => s.heap.size ≤ q) s s.heap) (hD1 : Dj ad1 122) (hD2 : Dj ad2 20) (hA1 : ∀ i, i < 122 → (fun q : Nat => s.heap.size ≤ q) (ad1 i)) (hA2 : ∀ i, i < 20 → (fun q : Nat => s.heap.size ≤ q) (ad2 i)) (hne : ∀ i j, i < 122 → j < 20 → ad1 i ≠ ad2 j) {i : Nat} (hi : i + 6 ≤ L) (hL : L ≤ 3072) {S1 S2 : SS} (hG1 : GX g ad1 S1) (hG2 : GM g ad2 S2) (hR : RR S1 S2) {H : Heap} {locs : List Loc} (hP1 : PW g ad1 122 S1 H) (hP2 : PW g ad2 20 S2 H) (hS : va_S (fun q : Nat => s.heap.size ≤ q) s.heap H locs) {ls : Array Slot} (hl : lv_has ls 4 [(0, .ref b), (1, .ref (ad1 0)), (2, .ref (ad2 0)), (3, .int (nI i))]) (K : (∀ (S1 S2 : SS) (H : Heap) (locs : List Loc) (ls : Array Slot), GX g ad1 S1 → GM g ad2 S2 → RR S1 S2 → PW g ad1 122 S1 H → PW g ad2 20 S2 H → va_S (fun q : Nat => s.heap.size ≤ q) s.heap H locs → lv_has ls 4 [(0, .ref b), (1, .ref (ad1 0)), (2, .ref (ad2 0)), (3, .int (nI i))] → W p l e room_1 s m #[Value.ref b] below meth c H locs 142 12631 (lw_Z below #[Value.ref b] s) (F0 m 2159 ls []))) : W p l e room_1 s m #[Value.ref b] below meth c H locs 142 12631 (lw_Z below #[Value.ref b] s) (F0 m 1739 ls []) := by
  obtain ⟨hx, hb, hr, hml, hown, hts, hX, hbl, hlocks, hgv⟩ := id C0
  have hbA : ¬ (fun q : Nat => s.heap.size ≤ q) b := Nat.not_le.mpr hbl
  have E : Ev p s m #[Value.ref b] c cL_law "EbbWreckLaw" g := ⟨hx, hb, hown, fun w h => hts w (List.mem_filter.mp h).1, hK⟩
  refine lv_aload_n hx hb dL_law_1739 rfl (lv_at hl 1 rfl) ?_
  refine lv_aload_n hx hb dL_law_1740 rfl (lv_at hl 0 rfl) ?_
  refine lv_iload_n hx hb dL_law_1741 rfl (lv_at hl 3 rfl) ?_
  refine lv_iconst (v := 1) hx hb dL_law_1742 (by decide) ?_
  refine lv_iadd hx hb dL_law_1743 ?_
  refine sb_at (P := fun z => W _ _ _ _ _ _ _ _ _ _ _ _ _ _ _ (F0 _ _ _ (.int z :: _))) (nI_add i 1) ?_
  refine va_sld hx hb hX hbl hbA hS (vp_in_nI (show i + 1 < L by omega) (by omega)) dL_law_1744 ?_
  refine sb_at (P := fun z => W _ _ _ _ _ _ _ _ _ _ _ _ _ _ _ (F0 _ _ _ (.int z :: _))) (show xs (nI (i + 1)).toNatClampNeg = xs (i + 1) by rw [nI_clamp (by omega)]) ?_
  refine lv_aload_n hx hb dL_law_1745 rfl (lv_at hl 0 rfl) ?_
  refine lv_iload_n hx hb dL_law_1746 rfl (lv_at hl 3 rfl) ?_
  refine lv_iconst (v := 2) hx hb dL_law_1747 (by decide) ?_
  refine lv_iadd hx hb dL_law_1748 ?_
  refine sb_at (P := fun z => W _ _ _ _ _ _ _ _ _ _ _ _ _ _ _ (F0 _ _ _ (.int z :: _))) (nI_add i 2) ?_
  refine va_sld hx hb hX hbl hbA hS (vp_in_nI (show i + 2 < L by omega) (by omega)) dL_law_1749 ?_
  refine sb_at (P := fun z => W _ _ _ _ _ _ _ _ _ _ _ _ _ _ _ (F0 _ _ _ (.int z :: _))) (show xs (nI (i + 2)).toNatClampNeg = xs (i + 2) by rw [nI_clamp (by omega)]) ?_
  refine lv_aload_n hx hb dL_law_1750 rfl (lv_at hl 0 rfl) ?_
  refine lv_iload_n hx hb dL_law_1751 rfl (lv_at hl 3 rfl) ?_
  refine lv_iconst (v := 3) hx hb dL_law_1752 (by decide) ?_
  refine lv_iadd hx hb dL_law_1753 ?_
  refine sb_at (P := fun z => W _ _ _ _ _ _ _ _ _ _ _ _ _ _ _ (F0 _ _ _ (.int z :: _))) (nI_add i 3) ?_
  refine va_sld hx hb hX hbl hbA hS (vp_in_nI (show i + 3 < L by omega) (by omega)) dL_law_1754 ?_
  refine sb_at (P := fun z => W _ _ _ _ _ _ _ _ _ _ _ _ _ _ _ (F0 _ _ _ (.int z :: _))) (show xs (nI (i + 3)).toNatClampNeg = xs (i + 3) by rw [nI_clamp (by omega)]) ?_
  obtain ⟨hI1, r2, r39, r57, r75, ar2, ar39, ar57, ar75⟩ := id hG1
  obtain ⟨_, _, _, cc1, _⟩ := invX_0 hI1
  refine xcVi E ⟨hD1, hA1⟩ (⟨hP1, hS⟩ : Hp g ad1 122 S1 (fun q : Nat => s.heap.size ≤ q) s.heap H locs) hml hl.1 0 (gX11_drawn_0 l g ad1 hD1 S1 hI1 (xs (i + 1)) (xs (i + 2)) (xs (i + 3)) (by omega) (by omega) (by omega)) mX11_drawn q1392 (by decide) cc1 rfl rfl ⟨(Nat.le_of_ble_eq_true rfl), (Nat.le_of_ble_eq_true rfl)⟩ ⟨(Nat.le_of_ble_eq_true rfl), (Nat.le_of_ble_eq_true rfl)⟩ (Nat.le_of_ble_eq_true rfl) rfl dL_law_1755 (fun r1 S3 H locs hp1 hQ1 hk1 => ?_)
  obtain ⟨hI3, o1⟩ := hp1
  have hG3 : GX g ad1 S3 := ⟨hI3, (by rw [o1 2 (by decide)]; exact r2), (by rw [o1 39 (by decide)]; exact r39), (by rw [o1 57 (by decide)]; exact r57), (by rw [o1 75 (by decide)]; exact r75), (ar_tr ar2 (o1 16 (by decide)) (o1 17 (by decide)) (o1 18 (by decide)) (o1 19 (by decide))), (ar_tr ar39 (o1 53 (by decide)) (o1 54 (by decide)) (o1 55 (by decide)) (o1 56 (by decide))), (ar_tr ar57 (o1 71 (by decide)) (o1 72 (by decide)) (o1 73 (by decide)) (o1 74 (by decide))), (ar_tr ar75 (o1 89 (by decide)) (o1 90 (by decide)) (o1 91 (by decide)) (o1 92 (by decide)))⟩
  have hP3 : PW g ad1 122 S3 H := hQ1.1
  have hS := hQ1.2
  have hP2 : PW g ad2 20 S2 H := pw_kept hP2 hk1 hne
  refine lv_pop hx hb dL_law_1758 rfl ?_
  refine lv_aload_n hx hb dL_law_1759 rfl (lv_at hl 2 rfl) ?_
  refine lv_aload_n hx hb dL_law_1760 rfl (lv_at hl 0 rfl) ?_
  refine lv_iload_n hx hb dL_law_1761 rfl (lv_at hl 3 rfl) ?_
  refine lv_iconst (v := 1) hx hb dL_law_1762 (by decide) ?_
  refine lv_iadd hx hb dL_law_1763 ?_
  refine sb_at (P := fun z => W _ _ _ _ _ _ _ _ _ _ _ _ _ _ _ (F0 _ _ _ (.int z :: _))) (nI_add i 1) ?_
  refine va_sld hx hb hX hbl hbA hS (vp_in_nI (show i + 1 < L by omega) (by omega)) dL_law_1764 ?_
  refine sb_at (P := fun z => W _ _ _ _ _ _ _ _ _ _ _ _ _ _ _ (F0 _ _ _ (.int z :: _))) (show xs (nI (i + 1)).toNatClampNeg = xs (i + 1) by rw [nI_clamp (by omega)]) ?_
  refine lv_aload_n hx hb dL_law_1765 rfl (lv_at hl 0 rfl) ?_
  refine lv_iload_n hx hb dL_law_1766 rfl (lv_at hl 3 rfl) ?_
  refine lv_iconst (v := 2) hx hb dL_law_1767 (by decide) ?_
  refine lv_iadd hx hb dL_law_1768 ?_
  refine sb_at (P := fun z => W _ _ _ _ _ _ _ _ _ _ _ _ _ _ _ (F0 _ _ _ (.int z :: _))) (nI_add i 2) ?_
  refine va_sld hx hb hX hbl hbA hS (vp_in_nI (show i + 2 < L by omega) (by omega)) dL_law_1769 ?_
  refine sb_at (P := fun z => W _ _ _ _ _ _ _ _ _ _ _ _ _ _ _ (F0 _ _ _ (.int z :: _))) (show xs (nI (i + 2)).toNatClampNeg = xs (i + 2) by rw [nI_clamp (by omega)]) ?_
  refine lv_aload_n hx hb dL_law_1770 rfl (lv_at hl 0 rfl) ?_
  refine lv_iload_n hx hb dL_law_1771 rfl (lv_at hl 3 rfl) ?_
  refine lv_iconst (v := 3) hx hb dL_law_1772 (by decide) ?_
  refine lv_iadd hx hb dL_law_1773 ?_
  refine sb_at (P := fun z => W _ _ _ _ _ _ _ _ _ _ _ _ _ _ _ (F0 _ _ _ (.int z :: _))) (nI_add i 3) ?_
  refine va_sld hx hb hX hbl hbA hS (vp_in_nI (show i + 3 < L by omega) (by omega)) dL_law_1774 ?_
  refine sb_at (P := fun z => W _ _ _ _ _ _ _ _ _ _ _ _ _ _ _ (F0 _ _ _ (.int z :: _))) (show xs (nI (i + 3)).toNatClampNeg = xs (i + 3) by rw [nI_clamp (by omega)]) ?_
  obtain ⟨hI2, t0, t1, t2, t3, at0, at1, at2, at3, ht0, ht1, ht2, ht3⟩ := id hG2
  obtain ⟨_, _, _, _, _, _, _, _, _, _, _, _, _, _, _, _, _, _, _, cc2, _, _, _, _, _, _, _, _, _⟩ := invM_0 hI2
  refine xcVi E ⟨hD2, hA2⟩ (⟨hP2, hS⟩ : Hp g ad2 20 S2 (fun q : Nat => s.heap.size ≤ q) s.heap H locs) hml hl.1 0 (gX12_drawn_0 l g ad2 hD2 S2 hI2 (xs (i + 1)) (xs (i + 2)) (xs (i + 3)) (by omega) (by omega) (by omega) (by omega) (by omega) at0) mX12_drawn q2124 (by decide) cc2 rfl rfl ⟨(Nat.le_of_ble_eq_true rfl), (Nat.le_of_ble_eq_true rfl)⟩ ⟨(Nat.le_of_ble_eq_true rfl), (Nat.le_of_ble_eq_true rfl)⟩ (Nat.le_of_ble_eq_true rfl) rfl dL_law_1775 (fun r2 S4 H locs hp2 hQ2 hk2 => ?_)
  obtain ⟨hI4, o2⟩ := hp2
  have hG4 : GM g ad2 S4 := ⟨hI4, (by rw [o2 6 (by decide), o2 7 (by decide)]; exact t0), (by rw [o2 6 (by decide), o2 7 (by decide)]; exact t1), (by rw [o2 6 (by decide), o2 7 (by decide)]; exact t2), (by rw [o2 6 (by decide), o2 7 (by decide)]; exact t3), (at_tr at0 (o2 7 (by decide)) (o2 12 (by decide))), (at_tr at1 (o2 7 (by decide)) (o2 12 (by decide))), (at_tr at2 (o2 7 (by decide)) (o2 12 (by decide))), (at_tr at3 (o2 7 (by decide)) (o2 12 (by decide))), (ht_tr ht0 (o2 7 (by decide)) (o2 9 (by decide))), (ht_tr ht1 (o2 7 (by decide)) (o2 9 (by decide))), (ht_tr ht2 (o2 7 (by decide)) (o2 9 (by decide))), (ht_tr ht3 (o2 7 (by decide)) (o2 9 (by decide)))⟩
  have hS := hQ2.2
  have hP4 : PW g ad2 20 S4 H := hQ2.1
  have hP3 : PW g ad1 122 S3 H := pw_kept hP3 hk2 (fun i j hi hj e => hne j i hj hi e.symm)
  have hR4 : RR S3 S4 := rr_eq hR (o1 93 (by decide)) (o1 117 (by decide)) (o1 118 (by decide)) (o2 13 (by decide)) (o2 1 (by decide)) (o2 2 (by decide))
  refine lv_pop hx hb dL_law_1778 rfl ?_
  refine lv_goto (tgt := 2159) hx hb dL_law_1779 (by decide) ?_
  exact K S3 S4 H locs ls hG3 hG4 hR4 hP3 hP4 hS hl
set_option maxHeartbeats 4000000 in
set_option maxRecDepth 100000 in
theorem law_case_54 {p : Program} {l : Launch} {e : Env} {s : State} {m : MethodId} {below : List Frame} {meth : Method} {c : Code} {b L : Nat} {xs : Nat → Int32} (C0 : lw_At p s m meth c b L xs) {g : GG} {tt : TT} {ad1 ad2 : Nat → Nat} (hK : KK g s) (hT : TW tt (fun q : Nat => s.heap.size ≤ q) s s.heap) (hD1 : Dj ad1 122) (hD2 : Dj ad2 20) (hA1 : ∀ i, i < 122 → (fun q : Nat => s.heap.size ≤ q) (ad1 i)) (hA2 : ∀ i, i < 20 → (fun q : Nat => s.heap.size ≤ q) (ad2 i)) (hne : ∀ i j, i < 122 → j < 20 → ad1 i ≠ ad2 j) {i : Nat} (hi : i + 6 ≤ L) (hL : L ≤ 3072) {S1 S2 : SS} (hG1 : GX g ad1 S1) (hG2 : GM g ad2 S2) (hR : RR S1 S2) {H : Heap} {locs : List Loc} (hP1 : PW g ad1 122 S1 H) (hP2 : PW g ad2 20 S2 H) (hS : va_S (fun q : Nat => s.heap.size ≤ q) s.heap H locs) {ls : Array Slot} (hl : lv_has ls 4 [(0, .ref b), (1, .ref (ad1 0)), (2, .ref (ad2 0)), (3, .int (nI i))]) (K : (∀ (S1 S2 : SS) (H : Heap) (locs : List Loc) (ls : Array Slot), GX g ad1 S1 → GM g ad2 S2 → RR S1 S2 → PW g ad1 122 S1 H → PW g ad2 20 S2 H → va_S (fun q : Nat => s.heap.size ≤ q) s.heap H locs → lv_has ls 4 [(0, .ref b), (1, .ref (ad1 0)), (2, .ref (ad2 0)), (3, .int (nI i))] → W p l e room_1 s m #[Value.ref b] below meth c H locs 142 12631 (lw_Z below #[Value.ref b] s) (F0 m 2159 ls []))) : W p l e room_1 s m #[Value.ref b] below meth c H locs 142 12631 (lw_Z below #[Value.ref b] s) (F0 m 1782 ls []) := by
  obtain ⟨hx, hb, hr, hml, hown, hts, hX, hbl, hlocks, hgv⟩ := id C0
  have hbA : ¬ (fun q : Nat => s.heap.size ≤ q) b := Nat.not_le.mpr hbl
  have E : Ev p s m #[Value.ref b] c cL_law "EbbWreckLaw" g := ⟨hx, hb, hown, fun w h => hts w (List.mem_filter.mp h).1, hK⟩
  refine lv_aload_n hx hb dL_law_1782 rfl (lv_at hl 1 rfl) ?_
  refine lv_aload_n hx hb dL_law_1783 rfl (lv_at hl 0 rfl) ?_
  refine lv_iload_n hx hb dL_law_1784 rfl (lv_at hl 3 rfl) ?_
  refine lv_iconst (v := 1) hx hb dL_law_1785 (by decide) ?_
  refine lv_iadd hx hb dL_law_1786 ?_
  refine sb_at (P := fun z => W _ _ _ _ _ _ _ _ _ _ _ _ _ _ _ (F0 _ _ _ (.int z :: _))) (nI_add i 1) ?_
  refine va_sld hx hb hX hbl hbA hS (vp_in_nI (show i + 1 < L by omega) (by omega)) dL_law_1787 ?_
  refine sb_at (P := fun z => W _ _ _ _ _ _ _ _ _ _ _ _ _ _ _ (F0 _ _ _ (.int z :: _))) (show xs (nI (i + 1)).toNatClampNeg = xs (i + 1) by rw [nI_clamp (by omega)]) ?_
  refine lv_aload_n hx hb dL_law_1788 rfl (lv_at hl 0 rfl) ?_
  refine lv_iload_n hx hb dL_law_1789 rfl (lv_at hl 3 rfl) ?_
  refine lv_iconst (v := 2) hx hb dL_law_1790 (by decide) ?_
  refine lv_iadd hx hb dL_law_1791 ?_
  refine sb_at (P := fun z => W _ _ _ _ _ _ _ _ _ _ _ _ _ _ _ (F0 _ _ _ (.int z :: _))) (nI_add i 2) ?_
  refine va_sld hx hb hX hbl hbA hS (vp_in_nI (show i + 2 < L by omega) (by omega)) dL_law_1792 ?_
  refine sb_at (P := fun z => W _ _ _ _ _ _ _ _ _ _ _ _ _ _ _ (F0 _ _ _ (.int z :: _))) (show xs (nI (i + 2)).toNatClampNeg = xs (i + 2) by rw [nI_clamp (by omega)]) ?_
  refine lv_aload_n hx hb dL_law_1793 rfl (lv_at hl 0 rfl) ?_
  refine lv_iload_n hx hb dL_law_1794 rfl (lv_at hl 3 rfl) ?_
  refine lv_iconst (v := 3) hx hb dL_law_1795 (by decide) ?_
  refine lv_iadd hx hb dL_law_1796 ?_
  refine sb_at (P := fun z => W _ _ _ _ _ _ _ _ _ _ _ _ _ _ _ (F0 _ _ _ (.int z :: _))) (nI_add i 3) ?_
  refine va_sld hx hb hX hbl hbA hS (vp_in_nI (show i + 3 < L by omega) (by omega)) dL_law_1797 ?_
  refine sb_at (P := fun z => W _ _ _ _ _ _ _ _ _ _ _ _ _ _ _ (F0 _ _ _ (.int z :: _))) (show xs (nI (i + 3)).toNatClampNeg = xs (i + 3) by rw [nI_clamp (by omega)]) ?_
  refine lv_aload_n hx hb dL_law_1798 rfl (lv_at hl 0 rfl) ?_
  refine lv_iload_n hx hb dL_law_1799 rfl (lv_at hl 3 rfl) ?_
  refine lv_iconst (v := 4) hx hb dL_law_1800 (by decide) ?_
  refine lv_iadd hx hb dL_law_1801 ?_
  refine sb_at (P := fun z => W _ _ _ _ _ _ _ _ _ _ _ _ _ _ _ (F0 _ _ _ (.int z :: _))) (nI_add i 4) ?_
  refine va_sld hx hb hX hbl hbA hS (vp_in_nI (show i + 4 < L by omega) (by omega)) dL_law_1802 ?_
  refine sb_at (P := fun z => W _ _ _ _ _ _ _ _ _ _ _ _ _ _ _ (F0 _ _ _ (.int z :: _))) (show xs (nI (i + 4)).toNatClampNeg = xs (i + 4) by rw [nI_clamp (by omega)]) ?_
  obtain ⟨hI1, r2, r39, r57, r75, ar2, ar39, ar57, ar75⟩ := id hG1
  obtain ⟨_, _, _, cc1, _⟩ := invX_0 hI1
  refine xcVi E ⟨hD1, hA1⟩ (⟨hP1, hS⟩ : Hp g ad1 122 S1 (fun q : Nat => s.heap.size ≤ q) s.heap H locs) hml hl.1 0 (gX11_luck_0 l g ad1 hD1 S1 hI1 (xs (i + 1)) (xs (i + 2)) (xs (i + 3)) (xs (i + 4)) (by omega) (by omega) (by omega)) mX11_luck q1406 (by decide) cc1 rfl rfl ⟨(Nat.le_of_ble_eq_true rfl), (Nat.le_of_ble_eq_true rfl)⟩ ⟨(Nat.le_of_ble_eq_true rfl), (Nat.le_of_ble_eq_true rfl)⟩ (Nat.le_of_ble_eq_true rfl) rfl dL_law_1803 (fun r1 S3 H locs hp1 hQ1 hk1 => ?_)
  obtain ⟨hI3, o1⟩ := hp1
  have hG3 : GX g ad1 S3 := ⟨hI3, (by rw [o1 2 (by decide)]; exact r2), (by rw [o1 39 (by decide)]; exact r39), (by rw [o1 57 (by decide)]; exact r57), (by rw [o1 75 (by decide)]; exact r75), (ar_tr ar2 (o1 16 (by decide)) (o1 17 (by decide)) (o1 18 (by decide)) (o1 19 (by decide))), (ar_tr ar39 (o1 53 (by decide)) (o1 54 (by decide)) (o1 55 (by decide)) (o1 56 (by decide))), (ar_tr ar57 (o1 71 (by decide)) (o1 72 (by decide)) (o1 73 (by decide)) (o1 74 (by decide))), (ar_tr ar75 (o1 89 (by decide)) (o1 90 (by decide)) (o1 91 (by decide)) (o1 92 (by decide)))⟩
  have hP3 : PW g ad1 122 S3 H := hQ1.1
  have hS := hQ1.2
  have hP2 : PW g ad2 20 S2 H := pw_kept hP2 hk1 hne
  refine lv_pop hx hb dL_law_1806 rfl ?_
  refine lv_aload_n hx hb dL_law_1807 rfl (lv_at hl 2 rfl) ?_
  refine lv_aload_n hx hb dL_law_1808 rfl (lv_at hl 0 rfl) ?_
  refine lv_iload_n hx hb dL_law_1809 rfl (lv_at hl 3 rfl) ?_
  refine lv_iconst (v := 1) hx hb dL_law_1810 (by decide) ?_
  refine lv_iadd hx hb dL_law_1811 ?_
  refine sb_at (P := fun z => W _ _ _ _ _ _ _ _ _ _ _ _ _ _ _ (F0 _ _ _ (.int z :: _))) (nI_add i 1) ?_
  refine va_sld hx hb hX hbl hbA hS (vp_in_nI (show i + 1 < L by omega) (by omega)) dL_law_1812 ?_
  refine sb_at (P := fun z => W _ _ _ _ _ _ _ _ _ _ _ _ _ _ _ (F0 _ _ _ (.int z :: _))) (show xs (nI (i + 1)).toNatClampNeg = xs (i + 1) by rw [nI_clamp (by omega)]) ?_
  refine lv_aload_n hx hb dL_law_1813 rfl (lv_at hl 0 rfl) ?_
  refine lv_iload_n hx hb dL_law_1814 rfl (lv_at hl 3 rfl) ?_
  refine lv_iconst (v := 2) hx hb dL_law_1815 (by decide) ?_
  refine lv_iadd hx hb dL_law_1816 ?_
  refine sb_at (P := fun z => W _ _ _ _ _ _ _ _ _ _ _ _ _ _ _ (F0 _ _ _ (.int z :: _))) (nI_add i 2) ?_
  refine va_sld hx hb hX hbl hbA hS (vp_in_nI (show i + 2 < L by omega) (by omega)) dL_law_1817 ?_
  refine sb_at (P := fun z => W _ _ _ _ _ _ _ _ _ _ _ _ _ _ _ (F0 _ _ _ (.int z :: _))) (show xs (nI (i + 2)).toNatClampNeg = xs (i + 2) by rw [nI_clamp (by omega)]) ?_
  refine lv_aload_n hx hb dL_law_1818 rfl (lv_at hl 0 rfl) ?_
  refine lv_iload_n hx hb dL_law_1819 rfl (lv_at hl 3 rfl) ?_
  refine lv_iconst (v := 3) hx hb dL_law_1820 (by decide) ?_
  refine lv_iadd hx hb dL_law_1821 ?_
  refine sb_at (P := fun z => W _ _ _ _ _ _ _ _ _ _ _ _ _ _ _ (F0 _ _ _ (.int z :: _))) (nI_add i 3) ?_
  refine va_sld hx hb hX hbl hbA hS (vp_in_nI (show i + 3 < L by omega) (by omega)) dL_law_1822 ?_
  refine sb_at (P := fun z => W _ _ _ _ _ _ _ _ _ _ _ _ _ _ _ (F0 _ _ _ (.int z :: _))) (show xs (nI (i + 3)).toNatClampNeg = xs (i + 3) by rw [nI_clamp (by omega)]) ?_
  refine lv_aload_n hx hb dL_law_1823 rfl (lv_at hl 0 rfl) ?_
  refine lv_iload_n hx hb dL_law_1824 rfl (lv_at hl 3 rfl) ?_
  refine lv_iconst (v := 4) hx hb dL_law_1825 (by decide) ?_
  refine lv_iadd hx hb dL_law_1826 ?_
  refine sb_at (P := fun z => W _ _ _ _ _ _ _ _ _ _ _ _ _ _ _ (F0 _ _ _ (.int z :: _))) (nI_add i 4) ?_
  refine va_sld hx hb hX hbl hbA hS (vp_in_nI (show i + 4 < L by omega) (by omega)) dL_law_1827 ?_
  refine sb_at (P := fun z => W _ _ _ _ _ _ _ _ _ _ _ _ _ _ _ (F0 _ _ _ (.int z :: _))) (show xs (nI (i + 4)).toNatClampNeg = xs (i + 4) by rw [nI_clamp (by omega)]) ?_
  obtain ⟨hI2, t0, t1, t2, t3, at0, at1, at2, at3, ht0, ht1, ht2, ht3⟩ := id hG2
  obtain ⟨_, _, _, _, _, _, _, _, _, _, _, _, _, _, _, _, _, _, _, cc2, _, _, _, _, _, _, _, _, _⟩ := invM_0 hI2
  refine xcVi E ⟨hD2, hA2⟩ (⟨hP2, hS⟩ : Hp g ad2 20 S2 (fun q : Nat => s.heap.size ≤ q) s.heap H locs) hml hl.1 0 (gX12_luck_0 l g ad2 hD2 S2 hI2 (xs (i + 1)) (xs (i + 2)) (xs (i + 3)) (xs (i + 4)) (by omega) (by omega) (by omega) (by omega) (by omega) at0) mX12_luck q2132 (by decide) cc2 rfl rfl ⟨(Nat.le_of_ble_eq_true rfl), (Nat.le_of_ble_eq_true rfl)⟩ ⟨(Nat.le_of_ble_eq_true rfl), (Nat.le_of_ble_eq_true rfl)⟩ (Nat.le_of_ble_eq_true rfl) rfl dL_law_1828 (fun r2 S4 H locs hp2 hQ2 hk2 => ?_)
  obtain ⟨hI4, o2⟩ := hp2
  have hG4 : GM g ad2 S4 := ⟨hI4, (by rw [o2 6 (by decide), o2 7 (by decide)]; exact t0), (by rw [o2 6 (by decide), o2 7 (by decide)]; exact t1), (by rw [o2 6 (by decide), o2 7 (by decide)]; exact t2), (by rw [o2 6 (by decide), o2 7 (by decide)]; exact t3), (at_tr at0 (o2 7 (by decide)) (o2 12 (by decide))), (at_tr at1 (o2 7 (by decide)) (o2 12 (by decide))), (at_tr at2 (o2 7 (by decide)) (o2 12 (by decide))), (at_tr at3 (o2 7 (by decide)) (o2 12 (by decide))), (ht_tr ht0 (o2 7 (by decide)) (o2 9 (by decide))), (ht_tr ht1 (o2 7 (by decide)) (o2 9 (by decide))), (ht_tr ht2 (o2 7 (by decide)) (o2 9 (by decide))), (ht_tr ht3 (o2 7 (by decide)) (o2 9 (by decide)))⟩
  have hS := hQ2.2
  have hP4 : PW g ad2 20 S4 H := hQ2.1
  have hP3 : PW g ad1 122 S3 H := pw_kept hP3 hk2 (fun i j hi hj e => hne j i hj hi e.symm)
  have hR4 : RR S3 S4 := rr_eq hR (o1 93 (by decide)) (o1 117 (by decide)) (o1 118 (by decide)) (o2 13 (by decide)) (o2 1 (by decide)) (o2 2 (by decide))
  refine lv_pop hx hb dL_law_1831 rfl ?_
  refine lv_goto (tgt := 2159) hx hb dL_law_1832 (by decide) ?_
  exact K S3 S4 H locs ls hG3 hG4 hR4 hP3 hP4 hS hl
set_option maxHeartbeats 4000000 in
set_option maxRecDepth 100000 in
theorem law_case_55 {p : Program} {l : Launch} {e : Env} {s : State} {m : MethodId} {below : List Frame} {meth : Method} {c : Code} {b L : Nat} {xs : Nat → Int32} (C0 : lw_At p s m meth c b L xs) {g : GG} {tt : TT} {ad1 ad2 : Nat → Nat} (hK : KK g s) (hT : TW tt (fun q : Nat => s.heap.size ≤ q) s s.heap) (hD1 : Dj ad1 122) (hD2 : Dj ad2 20) (hA1 : ∀ i, i < 122 → (fun q : Nat => s.heap.size ≤ q) (ad1 i)) (hA2 : ∀ i, i < 20 → (fun q : Nat => s.heap.size ≤ q) (ad2 i)) (hne : ∀ i j, i < 122 → j < 20 → ad1 i ≠ ad2 j) {i : Nat} (hi : i + 6 ≤ L) (hL : L ≤ 3072) {S1 S2 : SS} (hG1 : GX g ad1 S1) (hG2 : GM g ad2 S2) (hR : RR S1 S2) {H : Heap} {locs : List Loc} (hP1 : PW g ad1 122 S1 H) (hP2 : PW g ad2 20 S2 H) (hS : va_S (fun q : Nat => s.heap.size ≤ q) s.heap H locs) {ls : Array Slot} (hl : lv_has ls 4 [(0, .ref b), (1, .ref (ad1 0)), (2, .ref (ad2 0)), (3, .int (nI i))]) (K : (∀ (S1 S2 : SS) (H : Heap) (locs : List Loc) (ls : Array Slot), GX g ad1 S1 → GM g ad2 S2 → RR S1 S2 → PW g ad1 122 S1 H → PW g ad2 20 S2 H → va_S (fun q : Nat => s.heap.size ≤ q) s.heap H locs → lv_has ls 4 [(0, .ref b), (1, .ref (ad1 0)), (2, .ref (ad2 0)), (3, .int (nI i))] → W p l e room_1 s m #[Value.ref b] below meth c H locs 142 12631 (lw_Z below #[Value.ref b] s) (F0 m 2159 ls []))) : W p l e room_1 s m #[Value.ref b] below meth c H locs 142 12631 (lw_Z below #[Value.ref b] s) (F0 m 1835 ls []) := by
  obtain ⟨hx, hb, hr, hml, hown, hts, hX, hbl, hlocks, hgv⟩ := id C0
  have hbA : ¬ (fun q : Nat => s.heap.size ≤ q) b := Nat.not_le.mpr hbl
  have E : Ev p s m #[Value.ref b] c cL_law "EbbWreckLaw" g := ⟨hx, hb, hown, fun w h => hts w (List.mem_filter.mp h).1, hK⟩
  refine lv_aload_n hx hb dL_law_1835 rfl (lv_at hl 1 rfl) ?_
  refine lv_aload_n hx hb dL_law_1836 rfl (lv_at hl 0 rfl) ?_
  refine lv_iload_n hx hb dL_law_1837 rfl (lv_at hl 3 rfl) ?_
  refine lv_iconst (v := 1) hx hb dL_law_1838 (by decide) ?_
  refine lv_iadd hx hb dL_law_1839 ?_
  refine sb_at (P := fun z => W _ _ _ _ _ _ _ _ _ _ _ _ _ _ _ (F0 _ _ _ (.int z :: _))) (nI_add i 1) ?_
  refine va_sld hx hb hX hbl hbA hS (vp_in_nI (show i + 1 < L by omega) (by omega)) dL_law_1840 ?_
  refine sb_at (P := fun z => W _ _ _ _ _ _ _ _ _ _ _ _ _ _ _ (F0 _ _ _ (.int z :: _))) (show xs (nI (i + 1)).toNatClampNeg = xs (i + 1) by rw [nI_clamp (by omega)]) ?_
  refine lv_aload_n hx hb dL_law_1841 rfl (lv_at hl 0 rfl) ?_
  refine lv_iload_n hx hb dL_law_1842 rfl (lv_at hl 3 rfl) ?_
  refine lv_iconst (v := 2) hx hb dL_law_1843 (by decide) ?_
  refine lv_iadd hx hb dL_law_1844 ?_
  refine sb_at (P := fun z => W _ _ _ _ _ _ _ _ _ _ _ _ _ _ _ (F0 _ _ _ (.int z :: _))) (nI_add i 2) ?_
  refine va_sld hx hb hX hbl hbA hS (vp_in_nI (show i + 2 < L by omega) (by omega)) dL_law_1845 ?_
  refine sb_at (P := fun z => W _ _ _ _ _ _ _ _ _ _ _ _ _ _ _ (F0 _ _ _ (.int z :: _))) (show xs (nI (i + 2)).toNatClampNeg = xs (i + 2) by rw [nI_clamp (by omega)]) ?_
  refine lv_aload_n hx hb dL_law_1846 rfl (lv_at hl 0 rfl) ?_
  refine lv_iload_n hx hb dL_law_1847 rfl (lv_at hl 3 rfl) ?_
  refine lv_iconst (v := 3) hx hb dL_law_1848 (by decide) ?_
  refine lv_iadd hx hb dL_law_1849 ?_
  refine sb_at (P := fun z => W _ _ _ _ _ _ _ _ _ _ _ _ _ _ _ (F0 _ _ _ (.int z :: _))) (nI_add i 3) ?_
  refine va_sld hx hb hX hbl hbA hS (vp_in_nI (show i + 3 < L by omega) (by omega)) dL_law_1850 ?_
  refine sb_at (P := fun z => W _ _ _ _ _ _ _ _ _ _ _ _ _ _ _ (F0 _ _ _ (.int z :: _))) (show xs (nI (i + 3)).toNatClampNeg = xs (i + 3) by rw [nI_clamp (by omega)]) ?_
  obtain ⟨hI1, r2, r39, r57, r75, ar2, ar39, ar57, ar75⟩ := id hG1
  obtain ⟨_, _, _, cc1, _⟩ := invX_0 hI1
  refine xcVi E ⟨hD1, hA1⟩ (⟨hP1, hS⟩ : Hp g ad1 122 S1 (fun q : Nat => s.heap.size ≤ q) s.heap H locs) hml hl.1 0 (gX11_waits_0 l g ad1 hD1 S1 hI1 (xs (i + 1)) (xs (i + 2)) (xs (i + 3)) (by omega) (by omega) (by omega)) mX11_waits q1413 (by decide) cc1 rfl rfl ⟨(Nat.le_of_ble_eq_true rfl), (Nat.le_of_ble_eq_true rfl)⟩ ⟨(Nat.le_of_ble_eq_true rfl), (Nat.le_of_ble_eq_true rfl)⟩ (Nat.le_of_ble_eq_true rfl) rfl dL_law_1851 (fun r1 S3 H locs hp1 hQ1 hk1 => ?_)
  obtain ⟨hI3, o1, bb1⟩ := hp1
  have hG3 : GX g ad1 S3 := ⟨hI3, (by rw [o1 2 (by decide)]; exact r2), (by rw [o1 39 (by decide)]; exact r39), (by rw [o1 57 (by decide)]; exact r57), (by rw [o1 75 (by decide)]; exact r75), (ar_tr ar2 (o1 16 (by decide)) (o1 17 (by decide)) (o1 18 (by decide)) (o1 19 (by decide))), (ar_tr ar39 (o1 53 (by decide)) (o1 54 (by decide)) (o1 55 (by decide)) (o1 56 (by decide))), (ar_tr ar57 (o1 71 (by decide)) (o1 72 (by decide)) (o1 73 (by decide)) (o1 74 (by decide))), (ar_tr ar75 (o1 89 (by decide)) (o1 90 (by decide)) (o1 91 (by decide)) (o1 92 (by decide)))⟩
  have hP3 : PW g ad1 122 S3 H := hQ1.1
  have hS := hQ1.2
  have hP2 : PW g ad2 20 S2 H := pw_kept hP2 hk1 hne
  refine lv_pop hx hb dL_law_1854 rfl ?_
  refine lv_aload_n hx hb dL_law_1855 rfl (lv_at hl 2 rfl) ?_
  refine lv_aload_n hx hb dL_law_1856 rfl (lv_at hl 0 rfl) ?_
  refine lv_iload_n hx hb dL_law_1857 rfl (lv_at hl 3 rfl) ?_
  refine lv_iconst (v := 1) hx hb dL_law_1858 (by decide) ?_
  refine lv_iadd hx hb dL_law_1859 ?_
  refine sb_at (P := fun z => W _ _ _ _ _ _ _ _ _ _ _ _ _ _ _ (F0 _ _ _ (.int z :: _))) (nI_add i 1) ?_
  refine va_sld hx hb hX hbl hbA hS (vp_in_nI (show i + 1 < L by omega) (by omega)) dL_law_1860 ?_
  refine sb_at (P := fun z => W _ _ _ _ _ _ _ _ _ _ _ _ _ _ _ (F0 _ _ _ (.int z :: _))) (show xs (nI (i + 1)).toNatClampNeg = xs (i + 1) by rw [nI_clamp (by omega)]) ?_
  refine lv_aload_n hx hb dL_law_1861 rfl (lv_at hl 0 rfl) ?_
  refine lv_iload_n hx hb dL_law_1862 rfl (lv_at hl 3 rfl) ?_
  refine lv_iconst (v := 2) hx hb dL_law_1863 (by decide) ?_
  refine lv_iadd hx hb dL_law_1864 ?_
  refine sb_at (P := fun z => W _ _ _ _ _ _ _ _ _ _ _ _ _ _ _ (F0 _ _ _ (.int z :: _))) (nI_add i 2) ?_
  refine va_sld hx hb hX hbl hbA hS (vp_in_nI (show i + 2 < L by omega) (by omega)) dL_law_1865 ?_
  refine sb_at (P := fun z => W _ _ _ _ _ _ _ _ _ _ _ _ _ _ _ (F0 _ _ _ (.int z :: _))) (show xs (nI (i + 2)).toNatClampNeg = xs (i + 2) by rw [nI_clamp (by omega)]) ?_
  refine lv_aload_n hx hb dL_law_1866 rfl (lv_at hl 0 rfl) ?_
  refine lv_iload_n hx hb dL_law_1867 rfl (lv_at hl 3 rfl) ?_
  refine lv_iconst (v := 3) hx hb dL_law_1868 (by decide) ?_
  refine lv_iadd hx hb dL_law_1869 ?_
  refine sb_at (P := fun z => W _ _ _ _ _ _ _ _ _ _ _ _ _ _ _ (F0 _ _ _ (.int z :: _))) (nI_add i 3) ?_
  refine va_sld hx hb hX hbl hbA hS (vp_in_nI (show i + 3 < L by omega) (by omega)) dL_law_1870 ?_
  refine sb_at (P := fun z => W _ _ _ _ _ _ _ _ _ _ _ _ _ _ _ (F0 _ _ _ (.int z :: _))) (show xs (nI (i + 3)).toNatClampNeg = xs (i + 3) by rw [nI_clamp (by omega)]) ?_
  obtain ⟨hI2, t0, t1, t2, t3, at0, at1, at2, at3, ht0, ht1, ht2, ht3⟩ := id hG2
  obtain ⟨_, _, _, _, _, _, _, _, _, _, _, _, _, _, _, _, _, _, _, cc2, _, _, _, _, _, _, _, _, _⟩ := invM_0 hI2
  refine xcVi E ⟨hD2, hA2⟩ (⟨hP2, hS⟩ : Hp g ad2 20 S2 (fun q : Nat => s.heap.size ≤ q) s.heap H locs) hml hl.1 0 (gX12_waits_0 l g ad2 hD2 S2 hI2 (xs (i + 1)) (xs (i + 2)) (xs (i + 3)) (by omega) (by omega) (by omega) (by omega) (by omega) at0) mX12_waits q2136 (by decide) cc2 rfl rfl ⟨(Nat.le_of_ble_eq_true rfl), (Nat.le_of_ble_eq_true rfl)⟩ ⟨(Nat.le_of_ble_eq_true rfl), (Nat.le_of_ble_eq_true rfl)⟩ (Nat.le_of_ble_eq_true rfl) rfl dL_law_1871 (fun r2 S4 H locs hp2 hQ2 hk2 => ?_)
  obtain ⟨hI4, o2, bb2⟩ := hp2
  have hG4 : GM g ad2 S4 := ⟨hI4, (by rw [o2 6 (by decide), o2 7 (by decide)]; exact t0), (by rw [o2 6 (by decide), o2 7 (by decide)]; exact t1), (by rw [o2 6 (by decide), o2 7 (by decide)]; exact t2), (by rw [o2 6 (by decide), o2 7 (by decide)]; exact t3), (at_tr at0 (o2 7 (by decide)) (o2 12 (by decide))), (at_tr at1 (o2 7 (by decide)) (o2 12 (by decide))), (at_tr at2 (o2 7 (by decide)) (o2 12 (by decide))), (at_tr at3 (o2 7 (by decide)) (o2 12 (by decide))), (ht_tr ht0 (o2 7 (by decide)) (o2 9 (by decide))), (ht_tr ht1 (o2 7 (by decide)) (o2 9 (by decide))), (ht_tr ht2 (o2 7 (by decide)) (o2 9 (by decide))), (ht_tr ht3 (o2 7 (by decide)) (o2 9 (by decide)))⟩
  have hS := hQ2.2
  have hP4 : PW g ad2 20 S4 H := hQ2.1
  have hP3 : PW g ad1 122 S3 H := pw_kept hP3 hk2 (fun i j hi hj e => hne j i hj hi e.symm)
  have hR4 : RR S3 S4 := rr_eq hR (o1 93 (by decide)) (o1 117 (by decide)) (o1 118 (by decide)) (o2 13 (by decide)) (o2 1 (by decide)) (o2 2 (by decide))
  refine lv_pop hx hb dL_law_1874 rfl ?_
  refine lv_goto (tgt := 2159) hx hb dL_law_1875 (by decide) ?_
  exact K S3 S4 H locs ls hG3 hG4 hR4 hP3 hP4 hS hl
set_option maxHeartbeats 4000000 in
set_option maxRecDepth 100000 in
theorem law_case_56 {p : Program} {l : Launch} {e : Env} {s : State} {m : MethodId} {below : List Frame} {meth : Method} {c : Code} {b L : Nat} {xs : Nat → Int32} (C0 : lw_At p s m meth c b L xs) {g : GG} {tt : TT} {ad1 ad2 : Nat → Nat} (hK : KK g s) (hT : TW tt (fun q : Nat => s.heap.size ≤ q) s s.heap) (hD1 : Dj ad1 122) (hD2 : Dj ad2 20) (hA1 : ∀ i, i < 122 → (fun q : Nat => s.heap.size ≤ q) (ad1 i)) (hA2 : ∀ i, i < 20 → (fun q : Nat => s.heap.size ≤ q) (ad2 i)) (hne : ∀ i j, i < 122 → j < 20 → ad1 i ≠ ad2 j) {i : Nat} (hi : i + 6 ≤ L) (hL : L ≤ 3072) {S1 S2 : SS} (hG1 : GX g ad1 S1) (hG2 : GM g ad2 S2) (hR : RR S1 S2) {H : Heap} {locs : List Loc} (hP1 : PW g ad1 122 S1 H) (hP2 : PW g ad2 20 S2 H) (hS : va_S (fun q : Nat => s.heap.size ≤ q) s.heap H locs) {ls : Array Slot} (hl : lv_has ls 4 [(0, .ref b), (1, .ref (ad1 0)), (2, .ref (ad2 0)), (3, .int (nI i))]) (K : (∀ (S1 S2 : SS) (H : Heap) (locs : List Loc) (ls : Array Slot), GX g ad1 S1 → GM g ad2 S2 → RR S1 S2 → PW g ad1 122 S1 H → PW g ad2 20 S2 H → va_S (fun q : Nat => s.heap.size ≤ q) s.heap H locs → lv_has ls 4 [(0, .ref b), (1, .ref (ad1 0)), (2, .ref (ad2 0)), (3, .int (nI i))] → W p l e room_1 s m #[Value.ref b] below meth c H locs 142 12631 (lw_Z below #[Value.ref b] s) (F0 m 2159 ls []))) : W p l e room_1 s m #[Value.ref b] below meth c H locs 142 12631 (lw_Z below #[Value.ref b] s) (F0 m 1878 ls []) := by
  obtain ⟨hx, hb, hr, hml, hown, hts, hX, hbl, hlocks, hgv⟩ := id C0
  have hbA : ¬ (fun q : Nat => s.heap.size ≤ q) b := Nat.not_le.mpr hbl
  have E : Ev p s m #[Value.ref b] c cL_law "EbbWreckLaw" g := ⟨hx, hb, hown, fun w h => hts w (List.mem_filter.mp h).1, hK⟩
  refine lv_aload_n hx hb dL_law_1878 rfl (lv_at hl 1 rfl) ?_
  refine lv_aload_n hx hb dL_law_1879 rfl (lv_at hl 0 rfl) ?_
  refine lv_iload_n hx hb dL_law_1880 rfl (lv_at hl 3 rfl) ?_
  refine lv_iconst (v := 1) hx hb dL_law_1881 (by decide) ?_
  refine lv_iadd hx hb dL_law_1882 ?_
  refine sb_at (P := fun z => W _ _ _ _ _ _ _ _ _ _ _ _ _ _ _ (F0 _ _ _ (.int z :: _))) (nI_add i 1) ?_
  refine va_sld hx hb hX hbl hbA hS (vp_in_nI (show i + 1 < L by omega) (by omega)) dL_law_1883 ?_
  refine sb_at (P := fun z => W _ _ _ _ _ _ _ _ _ _ _ _ _ _ _ (F0 _ _ _ (.int z :: _))) (show xs (nI (i + 1)).toNatClampNeg = xs (i + 1) by rw [nI_clamp (by omega)]) ?_
  refine lv_aload_n hx hb dL_law_1884 rfl (lv_at hl 0 rfl) ?_
  refine lv_iload_n hx hb dL_law_1885 rfl (lv_at hl 3 rfl) ?_
  refine lv_iconst (v := 2) hx hb dL_law_1886 (by decide) ?_
  refine lv_iadd hx hb dL_law_1887 ?_
  refine sb_at (P := fun z => W _ _ _ _ _ _ _ _ _ _ _ _ _ _ _ (F0 _ _ _ (.int z :: _))) (nI_add i 2) ?_
  refine va_sld hx hb hX hbl hbA hS (vp_in_nI (show i + 2 < L by omega) (by omega)) dL_law_1888 ?_
  refine sb_at (P := fun z => W _ _ _ _ _ _ _ _ _ _ _ _ _ _ _ (F0 _ _ _ (.int z :: _))) (show xs (nI (i + 2)).toNatClampNeg = xs (i + 2) by rw [nI_clamp (by omega)]) ?_
  obtain ⟨hI1, r2, r39, r57, r75, ar2, ar39, ar57, ar75⟩ := id hG1
  obtain ⟨_, _, _, cc1, _⟩ := invX_0 hI1
  refine xcVi E ⟨hD1, hA1⟩ (⟨hP1, hS⟩ : Hp g ad1 122 S1 (fun q : Nat => s.heap.size ≤ q) s.heap H locs) hml hl.1 0 (gX11_rate_0 l g ad1 hD1 S1 hI1 (xs (i + 1)) (xs (i + 2)) (by omega) (by omega) (by omega)) mX11_rate q1388 (by decide) cc1 rfl rfl ⟨(Nat.le_of_ble_eq_true rfl), (Nat.le_of_ble_eq_true rfl)⟩ ⟨(Nat.le_of_ble_eq_true rfl), (Nat.le_of_ble_eq_true rfl)⟩ (Nat.le_of_ble_eq_true rfl) rfl dL_law_1889 (fun r1 S3 H locs hp1 hQ1 hk1 => ?_)
  obtain ⟨hI3, o1⟩ := hp1
  have hG3 : GX g ad1 S3 := ⟨hI3, (by rw [o1 2 (by decide)]; exact r2), (by rw [o1 39 (by decide)]; exact r39), (by rw [o1 57 (by decide)]; exact r57), (by rw [o1 75 (by decide)]; exact r75), (ar_tr ar2 (o1 16 (by decide)) (o1 17 (by decide)) (o1 18 (by decide)) (o1 19 (by decide))), (ar_tr ar39 (o1 53 (by decide)) (o1 54 (by decide)) (o1 55 (by decide)) (o1 56 (by decide))), (ar_tr ar57 (o1 71 (by decide)) (o1 72 (by decide)) (o1 73 (by decide)) (o1 74 (by decide))), (ar_tr ar75 (o1 89 (by decide)) (o1 90 (by decide)) (o1 91 (by decide)) (o1 92 (by decide)))⟩
  have hP3 : PW g ad1 122 S3 H := hQ1.1
  have hS := hQ1.2
  have hP2 : PW g ad2 20 S2 H := pw_kept hP2 hk1 hne
  refine lv_pop hx hb dL_law_1892 rfl ?_
  refine lv_aload_n hx hb dL_law_1893 rfl (lv_at hl 2 rfl) ?_
  refine lv_aload_n hx hb dL_law_1894 rfl (lv_at hl 0 rfl) ?_
  refine lv_iload_n hx hb dL_law_1895 rfl (lv_at hl 3 rfl) ?_
  refine lv_iconst (v := 1) hx hb dL_law_1896 (by decide) ?_
  refine lv_iadd hx hb dL_law_1897 ?_
  refine sb_at (P := fun z => W _ _ _ _ _ _ _ _ _ _ _ _ _ _ _ (F0 _ _ _ (.int z :: _))) (nI_add i 1) ?_
  refine va_sld hx hb hX hbl hbA hS (vp_in_nI (show i + 1 < L by omega) (by omega)) dL_law_1898 ?_
  refine sb_at (P := fun z => W _ _ _ _ _ _ _ _ _ _ _ _ _ _ _ (F0 _ _ _ (.int z :: _))) (show xs (nI (i + 1)).toNatClampNeg = xs (i + 1) by rw [nI_clamp (by omega)]) ?_
  refine lv_aload_n hx hb dL_law_1899 rfl (lv_at hl 0 rfl) ?_
  refine lv_iload_n hx hb dL_law_1900 rfl (lv_at hl 3 rfl) ?_
  refine lv_iconst (v := 2) hx hb dL_law_1901 (by decide) ?_
  refine lv_iadd hx hb dL_law_1902 ?_
  refine sb_at (P := fun z => W _ _ _ _ _ _ _ _ _ _ _ _ _ _ _ (F0 _ _ _ (.int z :: _))) (nI_add i 2) ?_
  refine va_sld hx hb hX hbl hbA hS (vp_in_nI (show i + 2 < L by omega) (by omega)) dL_law_1903 ?_
  refine sb_at (P := fun z => W _ _ _ _ _ _ _ _ _ _ _ _ _ _ _ (F0 _ _ _ (.int z :: _))) (show xs (nI (i + 2)).toNatClampNeg = xs (i + 2) by rw [nI_clamp (by omega)]) ?_
  obtain ⟨hI2, t0, t1, t2, t3, at0, at1, at2, at3, ht0, ht1, ht2, ht3⟩ := id hG2
  obtain ⟨_, _, _, _, _, _, _, _, _, _, _, _, _, _, _, _, _, _, _, cc2, _, _, _, _, _, _, _, _, _⟩ := invM_0 hI2
  refine xcVi E ⟨hD2, hA2⟩ (⟨hP2, hS⟩ : Hp g ad2 20 S2 (fun q : Nat => s.heap.size ≤ q) s.heap H locs) hml hl.1 0 (gX12_rateH l g ad2 hD2 S2 hI2 (xs (i + 1)) (xs (i + 2)) (by omega) (by omega) (by omega) (by omega) (by omega)) mX12_rate q2140 (by decide) cc2 rfl rfl ⟨(Nat.le_of_ble_eq_true rfl), (Nat.le_of_ble_eq_true rfl)⟩ ⟨(Nat.le_of_ble_eq_true rfl), (Nat.le_of_ble_eq_true rfl)⟩ (Nat.le_of_ble_eq_true rfl) rfl dL_law_1904 (fun r2 S4 H locs hp2 hQ2 hk2 => ?_)
  obtain ⟨hI4, o2, u2_0⟩ := hp2
  have hG4 : GM g ad2 S4 := ⟨hI4, (by rw [o2 6 (by decide), o2 7 (by decide)]; exact t0), (by rw [o2 6 (by decide), o2 7 (by decide)]; exact t1), (by rw [o2 6 (by decide), o2 7 (by decide)]; exact t2), (by rw [o2 6 (by decide), o2 7 (by decide)]; exact t3), (at_tr at0 (o2 7 (by decide)) (o2 12 (by decide))), (at_tr at1 (o2 7 (by decide)) (o2 12 (by decide))), (at_tr at2 (o2 7 (by decide)) (o2 12 (by decide))), (at_tr at3 (o2 7 (by decide)) (o2 12 (by decide))), (ht_em ht0 (o2 7 (by decide)) u2_0), (ht_em ht1 (o2 7 (by decide)) u2_0), (ht_em ht2 (o2 7 (by decide)) u2_0), (ht_em ht3 (o2 7 (by decide)) u2_0)⟩
  have hS := hQ2.2
  have hP4 : PW g ad2 20 S4 H := hQ2.1
  have hP3 : PW g ad1 122 S3 H := pw_kept hP3 hk2 (fun i j hi hj e => hne j i hj hi e.symm)
  have hR4 : RR S3 S4 := rr_eq hR (o1 93 (by decide)) (o1 117 (by decide)) (o1 118 (by decide)) (o2 13 (by decide)) (o2 1 (by decide)) (o2 2 (by decide))
  refine lv_pop hx hb dL_law_1907 rfl ?_
  refine lv_goto (tgt := 2159) hx hb dL_law_1908 (by decide) ?_
  exact K S3 S4 H locs ls hG3 hG4 hR4 hP3 hP4 hS hl
set_option maxHeartbeats 4000000 in
set_option maxRecDepth 100000 in
theorem law_case_57 {p : Program} {l : Launch} {e : Env} {s : State} {m : MethodId} {below : List Frame} {meth : Method} {c : Code} {b L : Nat} {xs : Nat → Int32} (C0 : lw_At p s m meth c b L xs) {g : GG} {tt : TT} {ad1 ad2 : Nat → Nat} (hK : KK g s) (hT : TW tt (fun q : Nat => s.heap.size ≤ q) s s.heap) (hD1 : Dj ad1 122) (hD2 : Dj ad2 20) (hA1 : ∀ i, i < 122 → (fun q : Nat => s.heap.size ≤ q) (ad1 i)) (hA2 : ∀ i, i < 20 → (fun q : Nat => s.heap.size ≤ q) (ad2 i)) (hne : ∀ i j, i < 122 → j < 20 → ad1 i ≠ ad2 j) {i : Nat} (hi : i + 6 ≤ L) (hL : L ≤ 3072) {S1 S2 : SS} (hG1 : GX g ad1 S1) (hG2 : GM g ad2 S2) (hR : RR S1 S2) {H : Heap} {locs : List Loc} (hP1 : PW g ad1 122 S1 H) (hP2 : PW g ad2 20 S2 H) (hS : va_S (fun q : Nat => s.heap.size ≤ q) s.heap H locs) {ls : Array Slot} (hl : lv_has ls 4 [(0, .ref b), (1, .ref (ad1 0)), (2, .ref (ad2 0)), (3, .int (nI i))]) (K : (∀ (S1 S2 : SS) (H : Heap) (locs : List Loc) (ls : Array Slot), GX g ad1 S1 → GM g ad2 S2 → RR S1 S2 → PW g ad1 122 S1 H → PW g ad2 20 S2 H → va_S (fun q : Nat => s.heap.size ≤ q) s.heap H locs → lv_has ls 4 [(0, .ref b), (1, .ref (ad1 0)), (2, .ref (ad2 0)), (3, .int (nI i))] → W p l e room_1 s m #[Value.ref b] below meth c H locs 142 12631 (lw_Z below #[Value.ref b] s) (F0 m 2159 ls []))) : W p l e room_1 s m #[Value.ref b] below meth c H locs 142 12631 (lw_Z below #[Value.ref b] s) (F0 m 1911 ls []) := by
  obtain ⟨hx, hb, hr, hml, hown, hts, hX, hbl, hlocks, hgv⟩ := id C0
  have hbA : ¬ (fun q : Nat => s.heap.size ≤ q) b := Nat.not_le.mpr hbl
  have E : Ev p s m #[Value.ref b] c cL_law "EbbWreckLaw" g := ⟨hx, hb, hown, fun w h => hts w (List.mem_filter.mp h).1, hK⟩
  refine lv_aload_n hx hb dL_law_1911 rfl (lv_at hl 1 rfl) ?_
  refine lv_aload_n hx hb dL_law_1912 rfl (lv_at hl 0 rfl) ?_
  refine lv_iload_n hx hb dL_law_1913 rfl (lv_at hl 3 rfl) ?_
  refine lv_iconst (v := 1) hx hb dL_law_1914 (by decide) ?_
  refine lv_iadd hx hb dL_law_1915 ?_
  refine sb_at (P := fun z => W _ _ _ _ _ _ _ _ _ _ _ _ _ _ _ (F0 _ _ _ (.int z :: _))) (nI_add i 1) ?_
  refine va_sld hx hb hX hbl hbA hS (vp_in_nI (show i + 1 < L by omega) (by omega)) dL_law_1916 ?_
  refine sb_at (P := fun z => W _ _ _ _ _ _ _ _ _ _ _ _ _ _ _ (F0 _ _ _ (.int z :: _))) (show xs (nI (i + 1)).toNatClampNeg = xs (i + 1) by rw [nI_clamp (by omega)]) ?_
  obtain ⟨hI1, r2, r39, r57, r75, ar2, ar39, ar57, ar75⟩ := id hG1
  obtain ⟨_, _, _, cc1, _⟩ := invX_0 hI1
  refine xcVi E ⟨hD1, hA1⟩ (⟨hP1, hS⟩ : Hp g ad1 122 S1 (fun q : Nat => s.heap.size ≤ q) s.heap H locs) hml hl.1 0 (gX11_count_0 l g ad1 hD1 S1 hI1 (xs (i + 1)) (by omega) (by omega) (by omega)) mX11_count q852 (by decide) cc1 rfl rfl ⟨(Nat.le_of_ble_eq_true rfl), (Nat.le_of_ble_eq_true rfl)⟩ ⟨(Nat.le_of_ble_eq_true rfl), (Nat.le_of_ble_eq_true rfl)⟩ (Nat.le_of_ble_eq_true rfl) rfl dL_law_1917 (fun r1 S3 H locs hp1 hQ1 hk1 => ?_)
  subst hp1
  have hG3 := hG1
  have hP3 : PW g ad1 122 S1 H := hQ1.1
  have hS := hQ1.2
  have hP2 : PW g ad2 20 S2 H := pw_kept hP2 hk1 hne
  refine lv_pop hx hb dL_law_1920 rfl ?_
  refine lv_aload_n hx hb dL_law_1921 rfl (lv_at hl 2 rfl) ?_
  refine lv_aload_n hx hb dL_law_1922 rfl (lv_at hl 0 rfl) ?_
  refine lv_iload_n hx hb dL_law_1923 rfl (lv_at hl 3 rfl) ?_
  refine lv_iconst (v := 1) hx hb dL_law_1924 (by decide) ?_
  refine lv_iadd hx hb dL_law_1925 ?_
  refine sb_at (P := fun z => W _ _ _ _ _ _ _ _ _ _ _ _ _ _ _ (F0 _ _ _ (.int z :: _))) (nI_add i 1) ?_
  refine va_sld hx hb hX hbl hbA hS (vp_in_nI (show i + 1 < L by omega) (by omega)) dL_law_1926 ?_
  refine sb_at (P := fun z => W _ _ _ _ _ _ _ _ _ _ _ _ _ _ _ (F0 _ _ _ (.int z :: _))) (show xs (nI (i + 1)).toNatClampNeg = xs (i + 1) by rw [nI_clamp (by omega)]) ?_
  obtain ⟨hI2, t0, t1, t2, t3, at0, at1, at2, at3, ht0, ht1, ht2, ht3⟩ := id hG2
  obtain ⟨_, _, _, _, _, _, _, _, _, _, _, _, _, _, _, _, _, _, _, cc2, _, _, _, _, _, _, _, _, _⟩ := invM_0 hI2
  refine xcVi E ⟨hD2, hA2⟩ (⟨hP2, hS⟩ : Hp g ad2 20 S2 (fun q : Nat => s.heap.size ≤ q) s.heap H locs) hml hl.1 0 (gX12_count_0 l g ad2 hD2 S2 hI2 (xs (i + 1)) (by omega) (by omega) (by omega) (by omega) (by omega)) mX12_count q2145 (by decide) cc2 rfl rfl ⟨(Nat.le_of_ble_eq_true rfl), (Nat.le_of_ble_eq_true rfl)⟩ ⟨(Nat.le_of_ble_eq_true rfl), (Nat.le_of_ble_eq_true rfl)⟩ (Nat.le_of_ble_eq_true rfl) rfl dL_law_1927 (fun r2 S4 H locs hp2 hQ2 hk2 => ?_)
  obtain ⟨hI4, o2⟩ := hp2
  have hG4 : GM g ad2 S4 := ⟨hI4, (by rw [o2 6 (by decide), o2 7 (by decide)]; exact t0), (by rw [o2 6 (by decide), o2 7 (by decide)]; exact t1), (by rw [o2 6 (by decide), o2 7 (by decide)]; exact t2), (by rw [o2 6 (by decide), o2 7 (by decide)]; exact t3), (at_tr at0 (o2 7 (by decide)) (o2 12 (by decide))), (at_tr at1 (o2 7 (by decide)) (o2 12 (by decide))), (at_tr at2 (o2 7 (by decide)) (o2 12 (by decide))), (at_tr at3 (o2 7 (by decide)) (o2 12 (by decide))), (ht_tr ht0 (o2 7 (by decide)) (o2 9 (by decide))), (ht_tr ht1 (o2 7 (by decide)) (o2 9 (by decide))), (ht_tr ht2 (o2 7 (by decide)) (o2 9 (by decide))), (ht_tr ht3 (o2 7 (by decide)) (o2 9 (by decide)))⟩
  have hS := hQ2.2
  have hP4 : PW g ad2 20 S4 H := hQ2.1
  have hP3 : PW g ad1 122 S1 H := pw_kept hP3 hk2 (fun i j hi hj e => hne j i hj hi e.symm)
  have hR4 : RR S1 S4 := rr_eq hR rfl rfl rfl (o2 13 (by decide)) (o2 1 (by decide)) (o2 2 (by decide))
  refine lv_pop hx hb dL_law_1930 rfl ?_
  refine lv_goto (tgt := 2159) hx hb dL_law_1931 (by decide) ?_
  exact K S1 S4 H locs ls hG3 hG4 hR4 hP3 hP4 hS hl
set_option maxHeartbeats 4000000 in
set_option maxRecDepth 100000 in
theorem law_case_58 {p : Program} {l : Launch} {e : Env} {s : State} {m : MethodId} {below : List Frame} {meth : Method} {c : Code} {b L : Nat} {xs : Nat → Int32} (C0 : lw_At p s m meth c b L xs) {g : GG} {tt : TT} {ad1 ad2 : Nat → Nat} (hK : KK g s) (hT : TW tt (fun q : Nat => s.heap.size ≤ q) s s.heap) (hD1 : Dj ad1 122) (hD2 : Dj ad2 20) (hA1 : ∀ i, i < 122 → (fun q : Nat => s.heap.size ≤ q) (ad1 i)) (hA2 : ∀ i, i < 20 → (fun q : Nat => s.heap.size ≤ q) (ad2 i)) (hne : ∀ i j, i < 122 → j < 20 → ad1 i ≠ ad2 j) {i : Nat} (hi : i + 6 ≤ L) (hL : L ≤ 3072) {S1 S2 : SS} (hG1 : GX g ad1 S1) (hG2 : GM g ad2 S2) (hR : RR S1 S2) {H : Heap} {locs : List Loc} (hP1 : PW g ad1 122 S1 H) (hP2 : PW g ad2 20 S2 H) (hS : va_S (fun q : Nat => s.heap.size ≤ q) s.heap H locs) {ls : Array Slot} (hl : lv_has ls 4 [(0, .ref b), (1, .ref (ad1 0)), (2, .ref (ad2 0)), (3, .int (nI i))]) (K : (∀ (S1 S2 : SS) (H : Heap) (locs : List Loc) (ls : Array Slot), GX g ad1 S1 → GM g ad2 S2 → RR S1 S2 → PW g ad1 122 S1 H → PW g ad2 20 S2 H → va_S (fun q : Nat => s.heap.size ≤ q) s.heap H locs → lv_has ls 4 [(0, .ref b), (1, .ref (ad1 0)), (2, .ref (ad2 0)), (3, .int (nI i))] → W p l e room_1 s m #[Value.ref b] below meth c H locs 142 12631 (lw_Z below #[Value.ref b] s) (F0 m 2159 ls []))) : W p l e room_1 s m #[Value.ref b] below meth c H locs 142 12631 (lw_Z below #[Value.ref b] s) (F0 m 1934 ls []) := by
  obtain ⟨hx, hb, hr, hml, hown, hts, hX, hbl, hlocks, hgv⟩ := id C0
  have hbA : ¬ (fun q : Nat => s.heap.size ≤ q) b := Nat.not_le.mpr hbl
  have E : Ev p s m #[Value.ref b] c cL_law "EbbWreckLaw" g := ⟨hx, hb, hown, fun w h => hts w (List.mem_filter.mp h).1, hK⟩
  refine lv_aload_n hx hb dL_law_1934 rfl (lv_at hl 1 rfl) ?_
  refine lv_aload_n hx hb dL_law_1935 rfl (lv_at hl 0 rfl) ?_
  refine lv_iload_n hx hb dL_law_1936 rfl (lv_at hl 3 rfl) ?_
  refine lv_iconst (v := 1) hx hb dL_law_1937 (by decide) ?_
  refine lv_iadd hx hb dL_law_1938 ?_
  refine sb_at (P := fun z => W _ _ _ _ _ _ _ _ _ _ _ _ _ _ _ (F0 _ _ _ (.int z :: _))) (nI_add i 1) ?_
  refine va_sld hx hb hX hbl hbA hS (vp_in_nI (show i + 1 < L by omega) (by omega)) dL_law_1939 ?_
  refine sb_at (P := fun z => W _ _ _ _ _ _ _ _ _ _ _ _ _ _ _ (F0 _ _ _ (.int z :: _))) (show xs (nI (i + 1)).toNatClampNeg = xs (i + 1) by rw [nI_clamp (by omega)]) ?_
  obtain ⟨hI1, r2, r39, r57, r75, ar2, ar39, ar57, ar75⟩ := id hG1
  obtain ⟨_, _, _, cc1, _⟩ := invX_0 hI1
  refine xcVi E ⟨hD1, hA1⟩ (⟨hP1, hS⟩ : Hp g ad1 122 S1 (fun q : Nat => s.heap.size ≤ q) s.heap H locs) hml hl.1 0 (gX11_image_0 l g ad1 hD1 S1 hI1 (xs (i + 1)) (by omega) (by omega) (by omega) (by omega) (by omega) (by omega) (by omega) (by omega) (by omega) (by omega) (by omega) (by omega) ar2 ar39 ar57 ar75) mX11_image q1421 (by decide) cc1 rfl rfl ⟨(Nat.le_of_ble_eq_true rfl), (Nat.le_of_ble_eq_true rfl)⟩ ⟨(Nat.le_of_ble_eq_true rfl), (Nat.le_of_ble_eq_true rfl)⟩ (Nat.le_of_ble_eq_true rfl) rfl dL_law_1940 (fun r1 S3 H locs hp1 hQ1 hk1 => ?_)
  obtain ⟨hI3, o1, bb1, g1_0, g1_1, g1_2, g1_3, g1_4, g1_5, g1_6, g1_7, g1_8, g1_9, g1_10, g1_11, u1_0, u1_1, u1_2, u1_3, u1_4, u1_5⟩ := hp1
  have hG3 : GX g ad1 S3 := ⟨hI3, (by rw [o1 2 (by decide)]; exact r2), ⟨by omega, by omega, by omega⟩, ⟨by omega, by omega, by omega⟩, ⟨by omega, by omega, by omega⟩, (ar_tr ar2 (o1 16 (by decide)) (o1 17 (by decide)) (o1 18 (by decide)) (o1 19 (by decide))), u1_1, u1_2, u1_3⟩
  have hP3 : PW g ad1 122 S3 H := hQ1.1
  have hS := hQ1.2
  have hP2 : PW g ad2 20 S2 H := pw_kept hP2 hk1 hne
  refine lv_pop hx hb dL_law_1943 rfl ?_
  refine lv_aload_n hx hb dL_law_1944 rfl (lv_at hl 2 rfl) ?_
  refine lv_aload_n hx hb dL_law_1945 rfl (lv_at hl 0 rfl) ?_
  refine lv_iload_n hx hb dL_law_1946 rfl (lv_at hl 3 rfl) ?_
  refine lv_iconst (v := 1) hx hb dL_law_1947 (by decide) ?_
  refine lv_iadd hx hb dL_law_1948 ?_
  refine sb_at (P := fun z => W _ _ _ _ _ _ _ _ _ _ _ _ _ _ _ (F0 _ _ _ (.int z :: _))) (nI_add i 1) ?_
  refine va_sld hx hb hX hbl hbA hS (vp_in_nI (show i + 1 < L by omega) (by omega)) dL_law_1949 ?_
  refine sb_at (P := fun z => W _ _ _ _ _ _ _ _ _ _ _ _ _ _ _ (F0 _ _ _ (.int z :: _))) (show xs (nI (i + 1)).toNatClampNeg = xs (i + 1) by rw [nI_clamp (by omega)]) ?_
  obtain ⟨hI2, t0, t1, t2, t3, at0, at1, at2, at3, ht0, ht1, ht2, ht3⟩ := id hG2
  obtain ⟨_, _, _, _, _, _, _, _, _, _, _, _, _, _, _, _, _, _, _, cc2, _, _, _, _, _, _, _, _, _⟩ := invM_0 hI2
  refine xcVi E ⟨hD2, hA2⟩ (⟨hP2, hS⟩ : Hp g ad2 20 S2 (fun q : Nat => s.heap.size ≤ q) s.heap H locs) hml hl.1 0 (gX12_image_0 l g ad2 hD2 S2 hI2 (xs (i + 1)) (by omega) (by omega) (by omega) (by omega) (by omega) (by omega) (by omega) (by omega) (by omega) (by omega) (by omega) (by omega) (by omega) (by omega) (by omega) (by omega) (by omega) (by omega) (by omega) (by omega) at0 at1 at2 at3 ht0 ht1 ht2 ht3) mX12_image q2150 (by decide) cc2 rfl rfl ⟨(Nat.le_of_ble_eq_true rfl), (Nat.le_of_ble_eq_true rfl)⟩ ⟨(Nat.le_of_ble_eq_true rfl), (Nat.le_of_ble_eq_true rfl)⟩ (Nat.le_of_ble_eq_true rfl) rfl dL_law_1950 (fun r2 S4 H locs hp2 hQ2 hk2 => ?_)
  obtain ⟨hI4, o2, bb2, g2_0, g2_1, g2_2, g2_3, g2_4, g2_5, g2_6, g2_7, g2_8, g2_9, g2_10, g2_11, g2_12, g2_13, g2_14, g2_15, g2_16, g2_17, g2_18, g2_19, u2_0, u2_1, u2_2, u2_3, u2_4, u2_5, u2_6, u2_7, u2_8, u2_9⟩ := hp2
  have hG4 : GM g ad2 S4 := ⟨hI4, ⟨by omega, by omega, by omega, by omega, by omega⟩, ⟨by omega, by omega, by omega, by omega, by omega⟩, ⟨by omega, by omega, by omega, by omega, by omega⟩, ⟨by omega, by omega, by omega, by omega, by omega⟩, u2_0, u2_1, u2_2, u2_3, u2_4, u2_5, u2_6, u2_7⟩
  have hS := hQ2.2
  have hP4 : PW g ad2 20 S4 H := hQ2.1
  have hP3 : PW g ad1 122 S3 H := pw_kept hP3 hk2 (fun i j hi hj e => hne j i hj hi e.symm)
  have hR4 : RR S3 S4 := rr_img hR u1_5 u2_9 (o1 117 (by decide)) (o1 118 (by decide)) (o2 1 (by decide)) (o2 2 (by decide))
  refine lv_pop hx hb dL_law_1953 rfl ?_
  refine lv_goto (tgt := 2159) hx hb dL_law_1954 (by decide) ?_
  exact K S3 S4 H locs ls hG3 hG4 hR4 hP3 hP4 hS hl
set_option maxHeartbeats 4000000 in
set_option maxRecDepth 100000 in
theorem law_case_59 {p : Program} {l : Launch} {e : Env} {s : State} {m : MethodId} {below : List Frame} {meth : Method} {c : Code} {b L : Nat} {xs : Nat → Int32} (C0 : lw_At p s m meth c b L xs) {g : GG} {tt : TT} {ad1 ad2 : Nat → Nat} (hK : KK g s) (hT : TW tt (fun q : Nat => s.heap.size ≤ q) s s.heap) (hD1 : Dj ad1 122) (hD2 : Dj ad2 20) (hA1 : ∀ i, i < 122 → (fun q : Nat => s.heap.size ≤ q) (ad1 i)) (hA2 : ∀ i, i < 20 → (fun q : Nat => s.heap.size ≤ q) (ad2 i)) (hne : ∀ i j, i < 122 → j < 20 → ad1 i ≠ ad2 j) {i : Nat} (hi : i + 6 ≤ L) (hL : L ≤ 3072) {S1 S2 : SS} (hG1 : GX g ad1 S1) (hG2 : GM g ad2 S2) (hR : RR S1 S2) {H : Heap} {locs : List Loc} (hP1 : PW g ad1 122 S1 H) (hP2 : PW g ad2 20 S2 H) (hS : va_S (fun q : Nat => s.heap.size ≤ q) s.heap H locs) {ls : Array Slot} (hl : lv_has ls 4 [(0, .ref b), (1, .ref (ad1 0)), (2, .ref (ad2 0)), (3, .int (nI i))]) (K : (∀ (S1 S2 : SS) (H : Heap) (locs : List Loc) (ls : Array Slot), GX g ad1 S1 → GM g ad2 S2 → RR S1 S2 → PW g ad1 122 S1 H → PW g ad2 20 S2 H → va_S (fun q : Nat => s.heap.size ≤ q) s.heap H locs → lv_has ls 4 [(0, .ref b), (1, .ref (ad1 0)), (2, .ref (ad2 0)), (3, .int (nI i))] → W p l e room_1 s m #[Value.ref b] below meth c H locs 142 12631 (lw_Z below #[Value.ref b] s) (F0 m 2159 ls []))) : W p l e room_1 s m #[Value.ref b] below meth c H locs 142 12631 (lw_Z below #[Value.ref b] s) (F0 m 1957 ls []) := by
  obtain ⟨hx, hb, hr, hml, hown, hts, hX, hbl, hlocks, hgv⟩ := id C0
  have hbA : ¬ (fun q : Nat => s.heap.size ≤ q) b := Nat.not_le.mpr hbl
  have E : Ev p s m #[Value.ref b] c cL_law "EbbWreckLaw" g := ⟨hx, hb, hown, fun w h => hts w (List.mem_filter.mp h).1, hK⟩
  refine lv_aload_n hx hb dL_law_1957 rfl (lv_at hl 1 rfl) ?_
  refine lv_aload_n hx hb dL_law_1958 rfl (lv_at hl 0 rfl) ?_
  refine lv_iload_n hx hb dL_law_1959 rfl (lv_at hl 3 rfl) ?_
  refine lv_iconst (v := 1) hx hb dL_law_1960 (by decide) ?_
  refine lv_iadd hx hb dL_law_1961 ?_
  refine sb_at (P := fun z => W _ _ _ _ _ _ _ _ _ _ _ _ _ _ _ (F0 _ _ _ (.int z :: _))) (nI_add i 1) ?_
  refine va_sld hx hb hX hbl hbA hS (vp_in_nI (show i + 1 < L by omega) (by omega)) dL_law_1962 ?_
  refine sb_at (P := fun z => W _ _ _ _ _ _ _ _ _ _ _ _ _ _ _ (F0 _ _ _ (.int z :: _))) (show xs (nI (i + 1)).toNatClampNeg = xs (i + 1) by rw [nI_clamp (by omega)]) ?_
  obtain ⟨hI1, r2, r39, r57, r75, ar2, ar39, ar57, ar75⟩ := id hG1
  obtain ⟨_, _, _, cc1, _⟩ := invX_0 hI1
  refine xcVi E ⟨hD1, hA1⟩ (⟨hP1, hS⟩ : Hp g ad1 122 S1 (fun q : Nat => s.heap.size ≤ q) s.heap H locs) hml hl.1 0 (gX11_back_0 l g ad1 hD1 S1 hI1 (xs (i + 1)) (by omega) (by omega) (by omega) (by omega) (by omega) (by omega) (by omega) (by omega) (by omega) (by omega) (by omega) (by omega) ar2 ar39 ar57 ar75) mX11_back q1425 (by decide) cc1 rfl rfl ⟨(Nat.le_of_ble_eq_true rfl), (Nat.le_of_ble_eq_true rfl)⟩ ⟨(Nat.le_of_ble_eq_true rfl), (Nat.le_of_ble_eq_true rfl)⟩ (Nat.le_of_ble_eq_true rfl) rfl dL_law_1963 (fun r1 S3 H locs hp1 hQ1 hk1 => ?_)
  obtain ⟨hI3, o1, bb1, g1_0, g1_1, g1_2, g1_3, g1_4, g1_5, g1_6, g1_7, g1_8, g1_9, g1_10, g1_11, u1_0, u1_1, u1_2, u1_3, u1_4⟩ := hp1
  have hG3 : GX g ad1 S3 := ⟨hI3, ⟨by omega, by omega, by omega⟩, (by rw [o1 39 (by decide)]; exact r39), (by rw [o1 57 (by decide)]; exact r57), (by rw [o1 75 (by decide)]; exact r75), u1_0, (ar_tr ar39 (o1 53 (by decide)) (o1 54 (by decide)) (o1 55 (by decide)) (o1 56 (by decide))), (ar_tr ar57 (o1 71 (by decide)) (o1 72 (by decide)) (o1 73 (by decide)) (o1 74 (by decide))), (ar_tr ar75 (o1 89 (by decide)) (o1 90 (by decide)) (o1 91 (by decide)) (o1 92 (by decide)))⟩
  have hP3 : PW g ad1 122 S3 H := hQ1.1
  have hS := hQ1.2
  have hP2 : PW g ad2 20 S2 H := pw_kept hP2 hk1 hne
  refine lv_pop hx hb dL_law_1966 rfl ?_
  refine lv_aload_n hx hb dL_law_1967 rfl (lv_at hl 2 rfl) ?_
  refine lv_aload_n hx hb dL_law_1968 rfl (lv_at hl 0 rfl) ?_
  refine lv_iload_n hx hb dL_law_1969 rfl (lv_at hl 3 rfl) ?_
  refine lv_iconst (v := 1) hx hb dL_law_1970 (by decide) ?_
  refine lv_iadd hx hb dL_law_1971 ?_
  refine sb_at (P := fun z => W _ _ _ _ _ _ _ _ _ _ _ _ _ _ _ (F0 _ _ _ (.int z :: _))) (nI_add i 1) ?_
  refine va_sld hx hb hX hbl hbA hS (vp_in_nI (show i + 1 < L by omega) (by omega)) dL_law_1972 ?_
  refine sb_at (P := fun z => W _ _ _ _ _ _ _ _ _ _ _ _ _ _ _ (F0 _ _ _ (.int z :: _))) (show xs (nI (i + 1)).toNatClampNeg = xs (i + 1) by rw [nI_clamp (by omega)]) ?_
  obtain ⟨hI2, t0, t1, t2, t3, at0, at1, at2, at3, ht0, ht1, ht2, ht3⟩ := id hG2
  obtain ⟨_, _, _, _, _, _, _, _, _, _, _, _, _, _, _, _, _, _, _, cc2, _, _, _, _, _, _, _, _, _⟩ := invM_0 hI2
  refine xcVi E ⟨hD2, hA2⟩ (⟨hP2, hS⟩ : Hp g ad2 20 S2 (fun q : Nat => s.heap.size ≤ q) s.heap H locs) hml hl.1 0 (gX12_back_0 l g ad2 hD2 S2 hI2 (xs (i + 1)) (by omega) (by omega) (by omega) (by omega) (by omega) (by omega) (by omega) (by omega) (by omega) (by omega) (by omega) (by omega) (by omega) (by omega) (by omega) (by omega) (by omega) (by omega) (by omega) (by omega) at0 at1 at2 at3 ht0 ht1 ht2 ht3) mX12_back q2154 (by decide) cc2 rfl rfl ⟨(Nat.le_of_ble_eq_true rfl), (Nat.le_of_ble_eq_true rfl)⟩ ⟨(Nat.le_of_ble_eq_true rfl), (Nat.le_of_ble_eq_true rfl)⟩ (Nat.le_of_ble_eq_true rfl) rfl dL_law_1973 (fun r2 S4 H locs hp2 hQ2 hk2 => ?_)
  obtain ⟨hI4, o2, bb2, g2_0, g2_1, g2_2, g2_3, g2_4, g2_5, g2_6, g2_7, g2_8, g2_9, g2_10, g2_11, g2_12, g2_13, g2_14, g2_15, g2_16, g2_17, g2_18, g2_19, u2_0, u2_1, u2_2, u2_3, u2_4, u2_5, u2_6, u2_7, u2_8⟩ := hp2
  have hG4 : GM g ad2 S4 := ⟨hI4, ⟨by omega, by omega, by omega, by omega, by omega⟩, ⟨by omega, by omega, by omega, by omega, by omega⟩, ⟨by omega, by omega, by omega, by omega, by omega⟩, ⟨by omega, by omega, by omega, by omega, by omega⟩, u2_0, u2_1, u2_2, u2_3, u2_4, u2_5, u2_6, u2_7⟩
  have hS := hQ2.2
  have hP4 : PW g ad2 20 S4 H := hQ2.1
  have hP3 : PW g ad1 122 S3 H := pw_kept hP3 hk2 (fun i j hi hj e => hne j i hj hi e.symm)
  have hR4 : RR S3 S4 := rr_eq hR (o1 93 (by decide)) (o1 117 (by decide)) (o1 118 (by decide)) (o2 13 (by decide)) (o2 1 (by decide)) (o2 2 (by decide))
  refine lv_pop hx hb dL_law_1976 rfl ?_
  refine lv_goto (tgt := 2159) hx hb dL_law_1977 (by decide) ?_
  exact K S3 S4 H locs ls hG3 hG4 hR4 hP3 hP4 hS hl
set_option maxHeartbeats 4000000 in
set_option maxRecDepth 100000 in
theorem law_case_60 {p : Program} {l : Launch} {e : Env} {s : State} {m : MethodId} {below : List Frame} {meth : Method} {c : Code} {b L : Nat} {xs : Nat → Int32} (C0 : lw_At p s m meth c b L xs) {g : GG} {tt : TT} {ad1 ad2 : Nat → Nat} (hK : KK g s) (hT : TW tt (fun q : Nat => s.heap.size ≤ q) s s.heap) (hD1 : Dj ad1 122) (hD2 : Dj ad2 20) (hA1 : ∀ i, i < 122 → (fun q : Nat => s.heap.size ≤ q) (ad1 i)) (hA2 : ∀ i, i < 20 → (fun q : Nat => s.heap.size ≤ q) (ad2 i)) (hne : ∀ i j, i < 122 → j < 20 → ad1 i ≠ ad2 j) {i : Nat} (hi : i + 6 ≤ L) (hL : L ≤ 3072) {S1 S2 : SS} (hG1 : GX g ad1 S1) (hG2 : GM g ad2 S2) (hR : RR S1 S2) {H : Heap} {locs : List Loc} (hP1 : PW g ad1 122 S1 H) (hP2 : PW g ad2 20 S2 H) (hS : va_S (fun q : Nat => s.heap.size ≤ q) s.heap H locs) {ls : Array Slot} (hl : lv_has ls 4 [(0, .ref b), (1, .ref (ad1 0)), (2, .ref (ad2 0)), (3, .int (nI i))]) (K : (∀ (S1 S2 : SS) (H : Heap) (locs : List Loc) (ls : Array Slot), GX g ad1 S1 → GM g ad2 S2 → RR S1 S2 → PW g ad1 122 S1 H → PW g ad2 20 S2 H → va_S (fun q : Nat => s.heap.size ≤ q) s.heap H locs → lv_has ls 4 [(0, .ref b), (1, .ref (ad1 0)), (2, .ref (ad2 0)), (3, .int (nI i))] → W p l e room_1 s m #[Value.ref b] below meth c H locs 142 12631 (lw_Z below #[Value.ref b] s) (F0 m 2159 ls []))) : W p l e room_1 s m #[Value.ref b] below meth c H locs 142 12631 (lw_Z below #[Value.ref b] s) (F0 m 1980 ls []) := by
  obtain ⟨hx, hb, hr, hml, hown, hts, hX, hbl, hlocks, hgv⟩ := id C0
  have hbA : ¬ (fun q : Nat => s.heap.size ≤ q) b := Nat.not_le.mpr hbl
  have E : Ev p s m #[Value.ref b] c cL_law "EbbWreckLaw" g := ⟨hx, hb, hown, fun w h => hts w (List.mem_filter.mp h).1, hK⟩
  refine lv_aload_n hx hb dL_law_1980 rfl (lv_at hl 1 rfl) ?_
  refine lv_aload_n hx hb dL_law_1981 rfl (lv_at hl 0 rfl) ?_
  refine lv_iload_n hx hb dL_law_1982 rfl (lv_at hl 3 rfl) ?_
  refine lv_iconst (v := 1) hx hb dL_law_1983 (by decide) ?_
  refine lv_iadd hx hb dL_law_1984 ?_
  refine sb_at (P := fun z => W _ _ _ _ _ _ _ _ _ _ _ _ _ _ _ (F0 _ _ _ (.int z :: _))) (nI_add i 1) ?_
  refine va_sld hx hb hX hbl hbA hS (vp_in_nI (show i + 1 < L by omega) (by omega)) dL_law_1985 ?_
  refine sb_at (P := fun z => W _ _ _ _ _ _ _ _ _ _ _ _ _ _ _ (F0 _ _ _ (.int z :: _))) (show xs (nI (i + 1)).toNatClampNeg = xs (i + 1) by rw [nI_clamp (by omega)]) ?_
  refine lv_aload_n hx hb dL_law_1986 rfl (lv_at hl 0 rfl) ?_
  refine lv_iload_n hx hb dL_law_1987 rfl (lv_at hl 3 rfl) ?_
  refine lv_iconst (v := 2) hx hb dL_law_1988 (by decide) ?_
  refine lv_iadd hx hb dL_law_1989 ?_
  refine sb_at (P := fun z => W _ _ _ _ _ _ _ _ _ _ _ _ _ _ _ (F0 _ _ _ (.int z :: _))) (nI_add i 2) ?_
  refine va_sld hx hb hX hbl hbA hS (vp_in_nI (show i + 2 < L by omega) (by omega)) dL_law_1990 ?_
  refine sb_at (P := fun z => W _ _ _ _ _ _ _ _ _ _ _ _ _ _ _ (F0 _ _ _ (.int z :: _))) (show xs (nI (i + 2)).toNatClampNeg = xs (i + 2) by rw [nI_clamp (by omega)]) ?_
  refine lv_aload_n hx hb dL_law_1991 rfl (lv_at hl 0 rfl) ?_
  refine lv_iload_n hx hb dL_law_1992 rfl (lv_at hl 3 rfl) ?_
  refine lv_iconst (v := 3) hx hb dL_law_1993 (by decide) ?_
  refine lv_iadd hx hb dL_law_1994 ?_
  refine sb_at (P := fun z => W _ _ _ _ _ _ _ _ _ _ _ _ _ _ _ (F0 _ _ _ (.int z :: _))) (nI_add i 3) ?_
  refine va_sld hx hb hX hbl hbA hS (vp_in_nI (show i + 3 < L by omega) (by omega)) dL_law_1995 ?_
  refine sb_at (P := fun z => W _ _ _ _ _ _ _ _ _ _ _ _ _ _ _ (F0 _ _ _ (.int z :: _))) (show xs (nI (i + 3)).toNatClampNeg = xs (i + 3) by rw [nI_clamp (by omega)]) ?_
  obtain ⟨hI1, r2, r39, r57, r75, ar2, ar39, ar57, ar75⟩ := id hG1
  obtain ⟨_, _, _, cc1, _⟩ := invX_0 hI1
  refine xcVi E ⟨hD1, hA1⟩ (⟨hP1, hS⟩ : Hp g ad1 122 S1 (fun q : Nat => s.heap.size ≤ q) s.heap H locs) hml hl.1 0 (gX11_row_0 l g ad1 hD1 S1 hI1 (xs (i + 1)) (xs (i + 2)) (xs (i + 3)) (by omega) (by omega) (by omega)) mX11_row q1429 (by decide) cc1 rfl rfl ⟨(Nat.le_of_ble_eq_true rfl), (Nat.le_of_ble_eq_true rfl)⟩ ⟨(Nat.le_of_ble_eq_true rfl), (Nat.le_of_ble_eq_true rfl)⟩ (Nat.le_of_ble_eq_true rfl) rfl dL_law_1996 (fun r1 S3 H locs hp1 hQ1 hk1 => ?_)
  obtain ⟨hI3, o1, bb1, u1_0, u1_1, u1_2⟩ := hp1
  have hG3 : GX g ad1 S3 := ⟨hI3, (by rw [o1 2 (by decide)]; exact r2), (by rw [o1 39 (by decide)]; exact r39), (by rw [o1 57 (by decide)]; exact r57), (by rw [o1 75 (by decide)]; exact r75), (ar_tr ar2 (o1 16 (by decide)) (o1 17 (by decide)) (o1 18 (by decide)) (o1 19 (by decide))), (ar_tr ar39 (o1 53 (by decide)) (o1 54 (by decide)) (o1 55 (by decide)) (o1 56 (by decide))), (ar_tr ar57 (o1 71 (by decide)) (o1 72 (by decide)) (o1 73 (by decide)) (o1 74 (by decide))), (ar_tr ar75 (o1 89 (by decide)) (o1 90 (by decide)) (o1 91 (by decide)) (o1 92 (by decide)))⟩
  have hP3 : PW g ad1 122 S3 H := hQ1.1
  have hS := hQ1.2
  have hP2 : PW g ad2 20 S2 H := pw_kept hP2 hk1 hne
  refine lv_pop hx hb dL_law_1999 rfl ?_
  refine lv_aload_n hx hb dL_law_2000 rfl (lv_at hl 2 rfl) ?_
  refine lv_aload_n hx hb dL_law_2001 rfl (lv_at hl 0 rfl) ?_
  refine lv_iload_n hx hb dL_law_2002 rfl (lv_at hl 3 rfl) ?_
  refine lv_iconst (v := 1) hx hb dL_law_2003 (by decide) ?_
  refine lv_iadd hx hb dL_law_2004 ?_
  refine sb_at (P := fun z => W _ _ _ _ _ _ _ _ _ _ _ _ _ _ _ (F0 _ _ _ (.int z :: _))) (nI_add i 1) ?_
  refine va_sld hx hb hX hbl hbA hS (vp_in_nI (show i + 1 < L by omega) (by omega)) dL_law_2005 ?_
  refine sb_at (P := fun z => W _ _ _ _ _ _ _ _ _ _ _ _ _ _ _ (F0 _ _ _ (.int z :: _))) (show xs (nI (i + 1)).toNatClampNeg = xs (i + 1) by rw [nI_clamp (by omega)]) ?_
  refine lv_aload_n hx hb dL_law_2006 rfl (lv_at hl 0 rfl) ?_
  refine lv_iload_n hx hb dL_law_2007 rfl (lv_at hl 3 rfl) ?_
  refine lv_iconst (v := 2) hx hb dL_law_2008 (by decide) ?_
  refine lv_iadd hx hb dL_law_2009 ?_
  refine sb_at (P := fun z => W _ _ _ _ _ _ _ _ _ _ _ _ _ _ _ (F0 _ _ _ (.int z :: _))) (nI_add i 2) ?_
  refine va_sld hx hb hX hbl hbA hS (vp_in_nI (show i + 2 < L by omega) (by omega)) dL_law_2010 ?_
  refine sb_at (P := fun z => W _ _ _ _ _ _ _ _ _ _ _ _ _ _ _ (F0 _ _ _ (.int z :: _))) (show xs (nI (i + 2)).toNatClampNeg = xs (i + 2) by rw [nI_clamp (by omega)]) ?_
  refine lv_aload_n hx hb dL_law_2011 rfl (lv_at hl 0 rfl) ?_
  refine lv_iload_n hx hb dL_law_2012 rfl (lv_at hl 3 rfl) ?_
  refine lv_iconst (v := 3) hx hb dL_law_2013 (by decide) ?_
  refine lv_iadd hx hb dL_law_2014 ?_
  refine sb_at (P := fun z => W _ _ _ _ _ _ _ _ _ _ _ _ _ _ _ (F0 _ _ _ (.int z :: _))) (nI_add i 3) ?_
  refine va_sld hx hb hX hbl hbA hS (vp_in_nI (show i + 3 < L by omega) (by omega)) dL_law_2015 ?_
  refine sb_at (P := fun z => W _ _ _ _ _ _ _ _ _ _ _ _ _ _ _ (F0 _ _ _ (.int z :: _))) (show xs (nI (i + 3)).toNatClampNeg = xs (i + 3) by rw [nI_clamp (by omega)]) ?_
  obtain ⟨hI2, t0, t1, t2, t3, at0, at1, at2, at3, ht0, ht1, ht2, ht3⟩ := id hG2
  obtain ⟨_, _, _, _, _, _, _, _, _, _, _, _, _, _, _, _, _, _, _, cc2, _, _, _, _, _, _, _, _, _⟩ := invM_0 hI2
  refine xcVi E ⟨hD2, hA2⟩ (⟨hP2, hS⟩ : Hp g ad2 20 S2 (fun q : Nat => s.heap.size ≤ q) s.heap H locs) hml hl.1 0 (gX12_row_0 l g ad2 hD2 S2 hI2 (xs (i + 1)) (xs (i + 2)) (xs (i + 3)) (by omega) (by omega) (by omega) (by omega) (by omega)) mX12_row q1583 (by decide) cc2 rfl rfl ⟨(Nat.le_of_ble_eq_true rfl), (Nat.le_of_ble_eq_true rfl)⟩ ⟨(Nat.le_of_ble_eq_true rfl), (Nat.le_of_ble_eq_true rfl)⟩ (Nat.le_of_ble_eq_true rfl) rfl dL_law_2016 (fun r2 S4 H locs hp2 hQ2 hk2 => ?_)
  obtain ⟨hI4, o2, bb2, u2_0, u2_1, u2_2⟩ := hp2
  have hG4 : GM g ad2 S4 := ⟨hI4, (by rw [o2 6 (by decide), o2 7 (by decide)]; exact t0), (by rw [o2 6 (by decide), o2 7 (by decide)]; exact t1), (by rw [o2 6 (by decide), o2 7 (by decide)]; exact t2), (by rw [o2 6 (by decide), o2 7 (by decide)]; exact t3), (at_tr at0 (o2 7 (by decide)) (o2 12 (by decide))), (at_tr at1 (o2 7 (by decide)) (o2 12 (by decide))), (at_tr at2 (o2 7 (by decide)) (o2 12 (by decide))), (at_tr at3 (o2 7 (by decide)) (o2 12 (by decide))), (ht_tr ht0 (o2 7 (by decide)) (o2 9 (by decide))), (ht_tr ht1 (o2 7 (by decide)) (o2 9 (by decide))), (ht_tr ht2 (o2 7 (by decide)) (o2 9 (by decide))), (ht_tr ht3 (o2 7 (by decide)) (o2 9 (by decide)))⟩
  have hS := hQ2.2
  have hP4 : PW g ad2 20 S4 H := hQ2.1
  have hP3 : PW g ad1 122 S3 H := pw_kept hP3 hk2 (fun i j hi hj e => hne j i hj hi e.symm)
  have hR4 : RR S3 S4 := rr_row hR u1_0 u2_0 u1_1 u1_2 u2_1 u2_2 (o1 93 (by decide)) (o2 13 (by decide))
  refine lv_pop hx hb dL_law_2019 rfl ?_
  refine lv_goto (tgt := 2159) hx hb dL_law_2020 (by decide) ?_
  exact K S3 S4 H locs ls hG3 hG4 hR4 hP3 hP4 hS hl
set_option maxHeartbeats 4000000 in
set_option maxRecDepth 100000 in
theorem law_case_61 {p : Program} {l : Launch} {e : Env} {s : State} {m : MethodId} {below : List Frame} {meth : Method} {c : Code} {b L : Nat} {xs : Nat → Int32} (C0 : lw_At p s m meth c b L xs) {g : GG} {tt : TT} {ad1 ad2 : Nat → Nat} (hK : KK g s) (hT : TW tt (fun q : Nat => s.heap.size ≤ q) s s.heap) (hD1 : Dj ad1 122) (hD2 : Dj ad2 20) (hA1 : ∀ i, i < 122 → (fun q : Nat => s.heap.size ≤ q) (ad1 i)) (hA2 : ∀ i, i < 20 → (fun q : Nat => s.heap.size ≤ q) (ad2 i)) (hne : ∀ i j, i < 122 → j < 20 → ad1 i ≠ ad2 j) {i : Nat} (hi : i + 6 ≤ L) (hL : L ≤ 3072) {S1 S2 : SS} (hG1 : GX g ad1 S1) (hG2 : GM g ad2 S2) (hR : RR S1 S2) {H : Heap} {locs : List Loc} (hP1 : PW g ad1 122 S1 H) (hP2 : PW g ad2 20 S2 H) (hS : va_S (fun q : Nat => s.heap.size ≤ q) s.heap H locs) {ls : Array Slot} (hl : lv_has ls 4 [(0, .ref b), (1, .ref (ad1 0)), (2, .ref (ad2 0)), (3, .int (nI i))]) (K : (∀ (S1 S2 : SS) (H : Heap) (locs : List Loc) (ls : Array Slot), GX g ad1 S1 → GM g ad2 S2 → RR S1 S2 → PW g ad1 122 S1 H → PW g ad2 20 S2 H → va_S (fun q : Nat => s.heap.size ≤ q) s.heap H locs → lv_has ls 4 [(0, .ref b), (1, .ref (ad1 0)), (2, .ref (ad2 0)), (3, .int (nI i))] → W p l e room_1 s m #[Value.ref b] below meth c H locs 142 12631 (lw_Z below #[Value.ref b] s) (F0 m 2159 ls []))) : W p l e room_1 s m #[Value.ref b] below meth c H locs 142 12631 (lw_Z below #[Value.ref b] s) (F0 m 2023 ls []) := by
  obtain ⟨hx, hb, hr, hml, hown, hts, hX, hbl, hlocks, hgv⟩ := id C0
  have hbA : ¬ (fun q : Nat => s.heap.size ≤ q) b := Nat.not_le.mpr hbl
  have E : Ev p s m #[Value.ref b] c cL_law "EbbWreckLaw" g := ⟨hx, hb, hown, fun w h => hts w (List.mem_filter.mp h).1, hK⟩
  refine lv_aload_n hx hb dL_law_2023 rfl (lv_at hl 1 rfl) ?_
  refine lv_aload_n hx hb dL_law_2024 rfl (lv_at hl 0 rfl) ?_
  refine lv_iload_n hx hb dL_law_2025 rfl (lv_at hl 3 rfl) ?_
  refine lv_iconst (v := 1) hx hb dL_law_2026 (by decide) ?_
  refine lv_iadd hx hb dL_law_2027 ?_
  refine sb_at (P := fun z => W _ _ _ _ _ _ _ _ _ _ _ _ _ _ _ (F0 _ _ _ (.int z :: _))) (nI_add i 1) ?_
  refine va_sld hx hb hX hbl hbA hS (vp_in_nI (show i + 1 < L by omega) (by omega)) dL_law_2028 ?_
  refine sb_at (P := fun z => W _ _ _ _ _ _ _ _ _ _ _ _ _ _ _ (F0 _ _ _ (.int z :: _))) (show xs (nI (i + 1)).toNatClampNeg = xs (i + 1) by rw [nI_clamp (by omega)]) ?_
  refine lv_aload_n hx hb dL_law_2029 rfl (lv_at hl 0 rfl) ?_
  refine lv_iload_n hx hb dL_law_2030 rfl (lv_at hl 3 rfl) ?_
  refine lv_iconst (v := 2) hx hb dL_law_2031 (by decide) ?_
  refine lv_iadd hx hb dL_law_2032 ?_
  refine sb_at (P := fun z => W _ _ _ _ _ _ _ _ _ _ _ _ _ _ _ (F0 _ _ _ (.int z :: _))) (nI_add i 2) ?_
  refine va_sld hx hb hX hbl hbA hS (vp_in_nI (show i + 2 < L by omega) (by omega)) dL_law_2033 ?_
  refine sb_at (P := fun z => W _ _ _ _ _ _ _ _ _ _ _ _ _ _ _ (F0 _ _ _ (.int z :: _))) (show xs (nI (i + 2)).toNatClampNeg = xs (i + 2) by rw [nI_clamp (by omega)]) ?_
  refine lv_aload_n hx hb dL_law_2034 rfl (lv_at hl 0 rfl) ?_
  refine lv_iload_n hx hb dL_law_2035 rfl (lv_at hl 3 rfl) ?_
  refine lv_iconst (v := 3) hx hb dL_law_2036 (by decide) ?_
  refine lv_iadd hx hb dL_law_2037 ?_
  refine sb_at (P := fun z => W _ _ _ _ _ _ _ _ _ _ _ _ _ _ _ (F0 _ _ _ (.int z :: _))) (nI_add i 3) ?_
  refine va_sld hx hb hX hbl hbA hS (vp_in_nI (show i + 3 < L by omega) (by omega)) dL_law_2038 ?_
  refine sb_at (P := fun z => W _ _ _ _ _ _ _ _ _ _ _ _ _ _ _ (F0 _ _ _ (.int z :: _))) (show xs (nI (i + 3)).toNatClampNeg = xs (i + 3) by rw [nI_clamp (by omega)]) ?_
  refine lv_i2l hx hb dL_law_2039 rfl ?_
  refine lv_bipush (v := 32) hx hb dL_law_2040 (by decide) ?_
  refine lv_lshl hx hb dL_law_2042 rfl ?_
  refine lv_aload_n hx hb dL_law_2043 rfl (lv_at hl 0 rfl) ?_
  refine lv_iload_n hx hb dL_law_2044 rfl (lv_at hl 3 rfl) ?_
  refine lv_iconst (v := 4) hx hb dL_law_2045 (by decide) ?_
  refine lv_iadd hx hb dL_law_2046 ?_
  refine sb_at (P := fun z => W _ _ _ _ _ _ _ _ _ _ _ _ _ _ _ (F0 _ _ _ (.int z :: _))) (nI_add i 4) ?_
  refine va_sld hx hb hX hbl hbA hS (vp_in_nI (show i + 4 < L by omega) (by omega)) dL_law_2047 ?_
  refine sb_at (P := fun z => W _ _ _ _ _ _ _ _ _ _ _ _ _ _ _ (F0 _ _ _ (.int z :: _))) (show xs (nI (i + 4)).toNatClampNeg = xs (i + 4) by rw [nI_clamp (by omega)]) ?_
  refine lv_i2l hx hb dL_law_2048 rfl ?_
  refine lv_ldc2 (v := 4294967295) hx hb E.2.2.1 (E.2.2.2.1 _ q2158) dL_law_2049 ?_
  refine lv_land hx hb dL_law_2052 ?_
  refine lv_lor hx hb dL_law_2053 ?_
  obtain ⟨hI1, r2, r39, r57, r75, ar2, ar39, ar57, ar75⟩ := id hG1
  obtain ⟨_, _, _, cc1, _⟩ := invX_0 hI1
  refine xcVi E ⟨hD1, hA1⟩ (⟨hP1, hS⟩ : Hp g ad1 122 S1 (fun q : Nat => s.heap.size ≤ q) s.heap H locs) hml hl.1 0 (gX11_write_0 l g ad1 hD1 S1 hI1 (xs (i + 1)) (xs (i + 2)) (((xs (i + 3)).toInt64 <<< ((32 : Int32).toInt64 &&& 63)) ||| (((xs (i + 4)).toInt64) &&& 4294967295)) (by omega) (by omega) (by omega)) mX11_write q1441 (by decide) cc1 rfl rfl ⟨(Nat.le_of_ble_eq_true rfl), (Nat.le_of_ble_eq_true rfl)⟩ ⟨(Nat.le_of_ble_eq_true rfl), (Nat.le_of_ble_eq_true rfl)⟩ (Nat.le_of_ble_eq_true rfl) rfl dL_law_2054 (fun r1 S3 H locs hp1 hQ1 hk1 => ?_)
  obtain ⟨hI3, o1, bb1, u1_0⟩ := hp1
  have hG3 : GX g ad1 S3 := ⟨hI3, (by rw [o1 2 (by decide)]; exact r2), (by rw [o1 39 (by decide)]; exact r39), (by rw [o1 57 (by decide)]; exact r57), (by rw [o1 75 (by decide)]; exact r75), (ar_tr ar2 (o1 16 (by decide)) (o1 17 (by decide)) (o1 18 (by decide)) (o1 19 (by decide))), (ar_tr ar39 (o1 53 (by decide)) (o1 54 (by decide)) (o1 55 (by decide)) (o1 56 (by decide))), (ar_tr ar57 (o1 71 (by decide)) (o1 72 (by decide)) (o1 73 (by decide)) (o1 74 (by decide))), (ar_tr ar75 (o1 89 (by decide)) (o1 90 (by decide)) (o1 91 (by decide)) (o1 92 (by decide)))⟩
  have hP3 : PW g ad1 122 S3 H := hQ1.1
  have hS := hQ1.2
  have hP2 : PW g ad2 20 S2 H := pw_kept hP2 hk1 hne
  refine lv_pop hx hb dL_law_2057 rfl ?_
  refine lv_aload_n hx hb dL_law_2058 rfl (lv_at hl 2 rfl) ?_
  refine lv_aload_n hx hb dL_law_2059 rfl (lv_at hl 0 rfl) ?_
  refine lv_iload_n hx hb dL_law_2060 rfl (lv_at hl 3 rfl) ?_
  refine lv_iconst (v := 1) hx hb dL_law_2061 (by decide) ?_
  refine lv_iadd hx hb dL_law_2062 ?_
  refine sb_at (P := fun z => W _ _ _ _ _ _ _ _ _ _ _ _ _ _ _ (F0 _ _ _ (.int z :: _))) (nI_add i 1) ?_
  refine va_sld hx hb hX hbl hbA hS (vp_in_nI (show i + 1 < L by omega) (by omega)) dL_law_2063 ?_
  refine sb_at (P := fun z => W _ _ _ _ _ _ _ _ _ _ _ _ _ _ _ (F0 _ _ _ (.int z :: _))) (show xs (nI (i + 1)).toNatClampNeg = xs (i + 1) by rw [nI_clamp (by omega)]) ?_
  refine lv_aload_n hx hb dL_law_2064 rfl (lv_at hl 0 rfl) ?_
  refine lv_iload_n hx hb dL_law_2065 rfl (lv_at hl 3 rfl) ?_
  refine lv_iconst (v := 2) hx hb dL_law_2066 (by decide) ?_
  refine lv_iadd hx hb dL_law_2067 ?_
  refine sb_at (P := fun z => W _ _ _ _ _ _ _ _ _ _ _ _ _ _ _ (F0 _ _ _ (.int z :: _))) (nI_add i 2) ?_
  refine va_sld hx hb hX hbl hbA hS (vp_in_nI (show i + 2 < L by omega) (by omega)) dL_law_2068 ?_
  refine sb_at (P := fun z => W _ _ _ _ _ _ _ _ _ _ _ _ _ _ _ (F0 _ _ _ (.int z :: _))) (show xs (nI (i + 2)).toNatClampNeg = xs (i + 2) by rw [nI_clamp (by omega)]) ?_
  refine lv_aload_n hx hb dL_law_2069 rfl (lv_at hl 0 rfl) ?_
  refine lv_iload_n hx hb dL_law_2070 rfl (lv_at hl 3 rfl) ?_
  refine lv_iconst (v := 3) hx hb dL_law_2071 (by decide) ?_
  refine lv_iadd hx hb dL_law_2072 ?_
  refine sb_at (P := fun z => W _ _ _ _ _ _ _ _ _ _ _ _ _ _ _ (F0 _ _ _ (.int z :: _))) (nI_add i 3) ?_
  refine va_sld hx hb hX hbl hbA hS (vp_in_nI (show i + 3 < L by omega) (by omega)) dL_law_2073 ?_
  refine sb_at (P := fun z => W _ _ _ _ _ _ _ _ _ _ _ _ _ _ _ (F0 _ _ _ (.int z :: _))) (show xs (nI (i + 3)).toNatClampNeg = xs (i + 3) by rw [nI_clamp (by omega)]) ?_
  refine lv_i2l hx hb dL_law_2074 rfl ?_
  refine lv_bipush (v := 32) hx hb dL_law_2075 (by decide) ?_
  refine lv_lshl hx hb dL_law_2077 rfl ?_
  refine lv_aload_n hx hb dL_law_2078 rfl (lv_at hl 0 rfl) ?_
  refine lv_iload_n hx hb dL_law_2079 rfl (lv_at hl 3 rfl) ?_
  refine lv_iconst (v := 4) hx hb dL_law_2080 (by decide) ?_
  refine lv_iadd hx hb dL_law_2081 ?_
  refine sb_at (P := fun z => W _ _ _ _ _ _ _ _ _ _ _ _ _ _ _ (F0 _ _ _ (.int z :: _))) (nI_add i 4) ?_
  refine va_sld hx hb hX hbl hbA hS (vp_in_nI (show i + 4 < L by omega) (by omega)) dL_law_2082 ?_
  refine sb_at (P := fun z => W _ _ _ _ _ _ _ _ _ _ _ _ _ _ _ (F0 _ _ _ (.int z :: _))) (show xs (nI (i + 4)).toNatClampNeg = xs (i + 4) by rw [nI_clamp (by omega)]) ?_
  refine lv_i2l hx hb dL_law_2083 rfl ?_
  refine lv_ldc2 (v := 4294967295) hx hb E.2.2.1 (E.2.2.2.1 _ q2158) dL_law_2084 ?_
  refine lv_land hx hb dL_law_2087 ?_
  refine lv_lor hx hb dL_law_2088 ?_
  obtain ⟨hI2, t0, t1, t2, t3, at0, at1, at2, at3, ht0, ht1, ht2, ht3⟩ := id hG2
  obtain ⟨_, _, _, _, _, _, _, _, _, _, _, _, _, _, _, _, _, _, _, cc2, _, _, _, _, _, _, _, _, _⟩ := invM_0 hI2
  refine xcVi E ⟨hD2, hA2⟩ (⟨hP2, hS⟩ : Hp g ad2 20 S2 (fun q : Nat => s.heap.size ≤ q) s.heap H locs) hml hl.1 0 (gX12_write_0 l g ad2 hD2 S2 hI2 (xs (i + 1)) (xs (i + 2)) (((xs (i + 3)).toInt64 <<< ((32 : Int32).toInt64 &&& 63)) ||| (((xs (i + 4)).toInt64) &&& 4294967295)) (by omega) (by omega) (by omega) (by omega) (by omega)) mX12_write q1594 (by decide) cc2 rfl rfl ⟨(Nat.le_of_ble_eq_true rfl), (Nat.le_of_ble_eq_true rfl)⟩ ⟨(Nat.le_of_ble_eq_true rfl), (Nat.le_of_ble_eq_true rfl)⟩ (Nat.le_of_ble_eq_true rfl) rfl dL_law_2089 (fun r2 S4 H locs hp2 hQ2 hk2 => ?_)
  obtain ⟨hI4, o2, bb2, u2_0⟩ := hp2
  have hG4 : GM g ad2 S4 := ⟨hI4, (by rw [o2 6 (by decide), o2 7 (by decide)]; exact t0), (by rw [o2 6 (by decide), o2 7 (by decide)]; exact t1), (by rw [o2 6 (by decide), o2 7 (by decide)]; exact t2), (by rw [o2 6 (by decide), o2 7 (by decide)]; exact t3), (at_tr at0 (o2 7 (by decide)) (o2 12 (by decide))), (at_tr at1 (o2 7 (by decide)) (o2 12 (by decide))), (at_tr at2 (o2 7 (by decide)) (o2 12 (by decide))), (at_tr at3 (o2 7 (by decide)) (o2 12 (by decide))), (ht_tr ht0 (o2 7 (by decide)) (o2 9 (by decide))), (ht_tr ht1 (o2 7 (by decide)) (o2 9 (by decide))), (ht_tr ht2 (o2 7 (by decide)) (o2 9 (by decide))), (ht_tr ht3 (o2 7 (by decide)) (o2 9 (by decide)))⟩
  have hS := hQ2.2
  have hP4 : PW g ad2 20 S4 H := hQ2.1
  have hP3 : PW g ad1 122 S3 H := pw_kept hP3 hk2 (fun i j hi hj e => hne j i hj hi e.symm)
  have hR4 : RR S3 S4 := rr_eq hR (o1 93 (by decide)) (o1 117 (by decide)) (o1 118 (by decide)) (o2 13 (by decide)) (o2 1 (by decide)) (o2 2 (by decide))
  refine lv_pop hx hb dL_law_2092 rfl ?_
  refine lv_goto (tgt := 2159) hx hb dL_law_2093 (by decide) ?_
  exact K S3 S4 H locs ls hG3 hG4 hR4 hP3 hP4 hS hl
set_option maxHeartbeats 4000000 in
set_option maxRecDepth 100000 in
theorem law_case_62 {p : Program} {l : Launch} {e : Env} {s : State} {m : MethodId} {below : List Frame} {meth : Method} {c : Code} {b L : Nat} {xs : Nat → Int32} (C0 : lw_At p s m meth c b L xs) {g : GG} {tt : TT} {ad1 ad2 : Nat → Nat} (hK : KK g s) (hT : TW tt (fun q : Nat => s.heap.size ≤ q) s s.heap) (hD1 : Dj ad1 122) (hD2 : Dj ad2 20) (hA1 : ∀ i, i < 122 → (fun q : Nat => s.heap.size ≤ q) (ad1 i)) (hA2 : ∀ i, i < 20 → (fun q : Nat => s.heap.size ≤ q) (ad2 i)) (hne : ∀ i j, i < 122 → j < 20 → ad1 i ≠ ad2 j) {i : Nat} (hi : i + 6 ≤ L) (hL : L ≤ 3072) {S1 S2 : SS} (hG1 : GX g ad1 S1) (hG2 : GM g ad2 S2) (hR : RR S1 S2) {H : Heap} {locs : List Loc} (hP1 : PW g ad1 122 S1 H) (hP2 : PW g ad2 20 S2 H) (hS : va_S (fun q : Nat => s.heap.size ≤ q) s.heap H locs) {ls : Array Slot} (hl : lv_has ls 4 [(0, .ref b), (1, .ref (ad1 0)), (2, .ref (ad2 0)), (3, .int (nI i))]) (K : (∀ (S1 S2 : SS) (H : Heap) (locs : List Loc) (ls : Array Slot), GX g ad1 S1 → GM g ad2 S2 → RR S1 S2 → PW g ad1 122 S1 H → PW g ad2 20 S2 H → va_S (fun q : Nat => s.heap.size ≤ q) s.heap H locs → lv_has ls 4 [(0, .ref b), (1, .ref (ad1 0)), (2, .ref (ad2 0)), (3, .int (nI i))] → W p l e room_1 s m #[Value.ref b] below meth c H locs 142 12631 (lw_Z below #[Value.ref b] s) (F0 m 2159 ls []))) : W p l e room_1 s m #[Value.ref b] below meth c H locs 142 12631 (lw_Z below #[Value.ref b] s) (F0 m 2096 ls []) := by
  obtain ⟨hx, hb, hr, hml, hown, hts, hX, hbl, hlocks, hgv⟩ := id C0
  have hbA : ¬ (fun q : Nat => s.heap.size ≤ q) b := Nat.not_le.mpr hbl
  have E : Ev p s m #[Value.ref b] c cL_law "EbbWreckLaw" g := ⟨hx, hb, hown, fun w h => hts w (List.mem_filter.mp h).1, hK⟩
  refine lv_aload_n hx hb dL_law_2096 rfl (lv_at hl 1 rfl) ?_
  refine lv_aload_n hx hb dL_law_2097 rfl (lv_at hl 0 rfl) ?_
  refine lv_iload_n hx hb dL_law_2098 rfl (lv_at hl 3 rfl) ?_
  refine lv_iconst (v := 1) hx hb dL_law_2099 (by decide) ?_
  refine lv_iadd hx hb dL_law_2100 ?_
  refine sb_at (P := fun z => W _ _ _ _ _ _ _ _ _ _ _ _ _ _ _ (F0 _ _ _ (.int z :: _))) (nI_add i 1) ?_
  refine va_sld hx hb hX hbl hbA hS (vp_in_nI (show i + 1 < L by omega) (by omega)) dL_law_2101 ?_
  refine sb_at (P := fun z => W _ _ _ _ _ _ _ _ _ _ _ _ _ _ _ (F0 _ _ _ (.int z :: _))) (show xs (nI (i + 1)).toNatClampNeg = xs (i + 1) by rw [nI_clamp (by omega)]) ?_
  refine lv_aload_n hx hb dL_law_2102 rfl (lv_at hl 0 rfl) ?_
  refine lv_iload_n hx hb dL_law_2103 rfl (lv_at hl 3 rfl) ?_
  refine lv_iconst (v := 2) hx hb dL_law_2104 (by decide) ?_
  refine lv_iadd hx hb dL_law_2105 ?_
  refine sb_at (P := fun z => W _ _ _ _ _ _ _ _ _ _ _ _ _ _ _ (F0 _ _ _ (.int z :: _))) (nI_add i 2) ?_
  refine va_sld hx hb hX hbl hbA hS (vp_in_nI (show i + 2 < L by omega) (by omega)) dL_law_2106 ?_
  refine sb_at (P := fun z => W _ _ _ _ _ _ _ _ _ _ _ _ _ _ _ (F0 _ _ _ (.int z :: _))) (show xs (nI (i + 2)).toNatClampNeg = xs (i + 2) by rw [nI_clamp (by omega)]) ?_
  refine lv_aload_n hx hb dL_law_2107 rfl (lv_at hl 0 rfl) ?_
  refine lv_iload_n hx hb dL_law_2108 rfl (lv_at hl 3 rfl) ?_
  refine lv_iconst (v := 3) hx hb dL_law_2109 (by decide) ?_
  refine lv_iadd hx hb dL_law_2110 ?_
  refine sb_at (P := fun z => W _ _ _ _ _ _ _ _ _ _ _ _ _ _ _ (F0 _ _ _ (.int z :: _))) (nI_add i 3) ?_
  refine va_sld hx hb hX hbl hbA hS (vp_in_nI (show i + 3 < L by omega) (by omega)) dL_law_2111 ?_
  refine sb_at (P := fun z => W _ _ _ _ _ _ _ _ _ _ _ _ _ _ _ (F0 _ _ _ (.int z :: _))) (show xs (nI (i + 3)).toNatClampNeg = xs (i + 3) by rw [nI_clamp (by omega)]) ?_
  refine lv_aload_n hx hb dL_law_2112 rfl (lv_at hl 0 rfl) ?_
  refine lv_iload_n hx hb dL_law_2113 rfl (lv_at hl 3 rfl) ?_
  refine lv_iconst (v := 4) hx hb dL_law_2114 (by decide) ?_
  refine lv_iadd hx hb dL_law_2115 ?_
  refine sb_at (P := fun z => W _ _ _ _ _ _ _ _ _ _ _ _ _ _ _ (F0 _ _ _ (.int z :: _))) (nI_add i 4) ?_
  refine va_sld hx hb hX hbl hbA hS (vp_in_nI (show i + 4 < L by omega) (by omega)) dL_law_2116 ?_
  refine sb_at (P := fun z => W _ _ _ _ _ _ _ _ _ _ _ _ _ _ _ (F0 _ _ _ (.int z :: _))) (show xs (nI (i + 4)).toNatClampNeg = xs (i + 4) by rw [nI_clamp (by omega)]) ?_
  refine lv_aload_n hx hb dL_law_2117 rfl (lv_at hl 0 rfl) ?_
  refine lv_iload_n hx hb dL_law_2118 rfl (lv_at hl 3 rfl) ?_
  refine lv_iconst (v := 5) hx hb dL_law_2119 (by decide) ?_
  refine lv_iadd hx hb dL_law_2120 ?_
  refine sb_at (P := fun z => W _ _ _ _ _ _ _ _ _ _ _ _ _ _ _ (F0 _ _ _ (.int z :: _))) (nI_add i 5) ?_
  refine va_sld hx hb hX hbl hbA hS (vp_in_nI (show i + 5 < L by omega) (by omega)) dL_law_2121 ?_
  refine sb_at (P := fun z => W _ _ _ _ _ _ _ _ _ _ _ _ _ _ _ (F0 _ _ _ (.int z :: _))) (show xs (nI (i + 5)).toNatClampNeg = xs (i + 5) by rw [nI_clamp (by omega)]) ?_
  obtain ⟨hI1, r2, r39, r57, r75, ar2, ar39, ar57, ar75⟩ := id hG1
  obtain ⟨_, _, _, cc1, _⟩ := invX_0 hI1
  refine xcVi E ⟨hD1, hA1⟩ (⟨hP1, hS⟩ : Hp g ad1 122 S1 (fun q : Nat => s.heap.size ≤ q) s.heap H locs) hml hl.1 0 (gX11_paste_0 l g ad1 hD1 S1 hI1 (xs (i + 1)) (xs (i + 2)) (xs (i + 3)) (xs (i + 4)) (xs (i + 5)) (by omega) (by omega) (by omega)) mX11_paste q1453 (by decide) cc1 rfl rfl ⟨(Nat.le_of_ble_eq_true rfl), (Nat.le_of_ble_eq_true rfl)⟩ ⟨(Nat.le_of_ble_eq_true rfl), (Nat.le_of_ble_eq_true rfl)⟩ (Nat.le_of_ble_eq_true rfl) rfl dL_law_2122 (fun r1 S3 H locs hp1 hQ1 hk1 => ?_)
  obtain ⟨hI3, o1, bb1, u1_0⟩ := hp1
  have hG3 : GX g ad1 S3 := ⟨hI3, (by rw [o1 2 (by decide)]; exact r2), (by rw [o1 39 (by decide)]; exact r39), (by rw [o1 57 (by decide)]; exact r57), (by rw [o1 75 (by decide)]; exact r75), (ar_tr ar2 (o1 16 (by decide)) (o1 17 (by decide)) (o1 18 (by decide)) (o1 19 (by decide))), (ar_tr ar39 (o1 53 (by decide)) (o1 54 (by decide)) (o1 55 (by decide)) (o1 56 (by decide))), (ar_tr ar57 (o1 71 (by decide)) (o1 72 (by decide)) (o1 73 (by decide)) (o1 74 (by decide))), (ar_tr ar75 (o1 89 (by decide)) (o1 90 (by decide)) (o1 91 (by decide)) (o1 92 (by decide)))⟩
  have hP3 : PW g ad1 122 S3 H := hQ1.1
  have hS := hQ1.2
  have hP2 : PW g ad2 20 S2 H := pw_kept hP2 hk1 hne
  refine lv_aload_n hx hb dL_law_2125 rfl (lv_at hl 2 rfl) ?_
  refine lv_aload_n hx hb dL_law_2126 rfl (lv_at hl 0 rfl) ?_
  refine lv_iload_n hx hb dL_law_2127 rfl (lv_at hl 3 rfl) ?_
  refine lv_iconst (v := 1) hx hb dL_law_2128 (by decide) ?_
  refine lv_iadd hx hb dL_law_2129 ?_
  refine sb_at (P := fun z => W _ _ _ _ _ _ _ _ _ _ _ _ _ _ _ (F0 _ _ _ (.int z :: _))) (nI_add i 1) ?_
  refine va_sld hx hb hX hbl hbA hS (vp_in_nI (show i + 1 < L by omega) (by omega)) dL_law_2130 ?_
  refine sb_at (P := fun z => W _ _ _ _ _ _ _ _ _ _ _ _ _ _ _ (F0 _ _ _ (.int z :: _))) (show xs (nI (i + 1)).toNatClampNeg = xs (i + 1) by rw [nI_clamp (by omega)]) ?_
  refine lv_aload_n hx hb dL_law_2131 rfl (lv_at hl 0 rfl) ?_
  refine lv_iload_n hx hb dL_law_2132 rfl (lv_at hl 3 rfl) ?_
  refine lv_iconst (v := 2) hx hb dL_law_2133 (by decide) ?_
  refine lv_iadd hx hb dL_law_2134 ?_
  refine sb_at (P := fun z => W _ _ _ _ _ _ _ _ _ _ _ _ _ _ _ (F0 _ _ _ (.int z :: _))) (nI_add i 2) ?_
  refine va_sld hx hb hX hbl hbA hS (vp_in_nI (show i + 2 < L by omega) (by omega)) dL_law_2135 ?_
  refine sb_at (P := fun z => W _ _ _ _ _ _ _ _ _ _ _ _ _ _ _ (F0 _ _ _ (.int z :: _))) (show xs (nI (i + 2)).toNatClampNeg = xs (i + 2) by rw [nI_clamp (by omega)]) ?_
  refine lv_aload_n hx hb dL_law_2136 rfl (lv_at hl 0 rfl) ?_
  refine lv_iload_n hx hb dL_law_2137 rfl (lv_at hl 3 rfl) ?_
  refine lv_iconst (v := 3) hx hb dL_law_2138 (by decide) ?_
  refine lv_iadd hx hb dL_law_2139 ?_
  refine sb_at (P := fun z => W _ _ _ _ _ _ _ _ _ _ _ _ _ _ _ (F0 _ _ _ (.int z :: _))) (nI_add i 3) ?_
  refine va_sld hx hb hX hbl hbA hS (vp_in_nI (show i + 3 < L by omega) (by omega)) dL_law_2140 ?_
  refine sb_at (P := fun z => W _ _ _ _ _ _ _ _ _ _ _ _ _ _ _ (F0 _ _ _ (.int z :: _))) (show xs (nI (i + 3)).toNatClampNeg = xs (i + 3) by rw [nI_clamp (by omega)]) ?_
  refine lv_aload_n hx hb dL_law_2141 rfl (lv_at hl 0 rfl) ?_
  refine lv_iload_n hx hb dL_law_2142 rfl (lv_at hl 3 rfl) ?_
  refine lv_iconst (v := 4) hx hb dL_law_2143 (by decide) ?_
  refine lv_iadd hx hb dL_law_2144 ?_
  refine sb_at (P := fun z => W _ _ _ _ _ _ _ _ _ _ _ _ _ _ _ (F0 _ _ _ (.int z :: _))) (nI_add i 4) ?_
  refine va_sld hx hb hX hbl hbA hS (vp_in_nI (show i + 4 < L by omega) (by omega)) dL_law_2145 ?_
  refine sb_at (P := fun z => W _ _ _ _ _ _ _ _ _ _ _ _ _ _ _ (F0 _ _ _ (.int z :: _))) (show xs (nI (i + 4)).toNatClampNeg = xs (i + 4) by rw [nI_clamp (by omega)]) ?_
  refine lv_aload_n hx hb dL_law_2146 rfl (lv_at hl 0 rfl) ?_
  refine lv_iload_n hx hb dL_law_2147 rfl (lv_at hl 3 rfl) ?_
  refine lv_iconst (v := 5) hx hb dL_law_2148 (by decide) ?_
  refine lv_iadd hx hb dL_law_2149 ?_
  refine sb_at (P := fun z => W _ _ _ _ _ _ _ _ _ _ _ _ _ _ _ (F0 _ _ _ (.int z :: _))) (nI_add i 5) ?_
  refine va_sld hx hb hX hbl hbA hS (vp_in_nI (show i + 5 < L by omega) (by omega)) dL_law_2150 ?_
  refine sb_at (P := fun z => W _ _ _ _ _ _ _ _ _ _ _ _ _ _ _ (F0 _ _ _ (.int z :: _))) (show xs (nI (i + 5)).toNatClampNeg = xs (i + 5) by rw [nI_clamp (by omega)]) ?_
  obtain ⟨hI2, t0, t1, t2, t3, at0, at1, at2, at3, ht0, ht1, ht2, ht3⟩ := id hG2
  obtain ⟨_, _, _, _, _, _, _, _, _, _, _, _, _, _, _, _, _, _, _, cc2, _, _, _, _, _, _, _, _, _⟩ := invM_0 hI2
  refine xcVi E ⟨hD2, hA2⟩ (⟨hP2, hS⟩ : Hp g ad2 20 S2 (fun q : Nat => s.heap.size ≤ q) s.heap H locs) hml hl.1 0 (gX12_paste_0 l g ad2 hD2 S2 hI2 (xs (i + 1)) (xs (i + 2)) (xs (i + 3)) (xs (i + 4)) (xs (i + 5)) (by omega) (by omega) (by omega) (by omega) (by omega)) mX12_paste q1601 (by decide) cc2 rfl rfl ⟨(Nat.le_of_ble_eq_true rfl), (Nat.le_of_ble_eq_true rfl)⟩ ⟨(Nat.le_of_ble_eq_true rfl), (Nat.le_of_ble_eq_true rfl)⟩ (Nat.le_of_ble_eq_true rfl) rfl dL_law_2151 (fun r2 S4 H locs hp2 hQ2 hk2 => ?_)
  obtain ⟨hI4, o2, bb2, u2_0⟩ := hp2
  have hG4 : GM g ad2 S4 := ⟨hI4, (by rw [o2 6 (by decide), o2 7 (by decide)]; exact t0), (by rw [o2 6 (by decide), o2 7 (by decide)]; exact t1), (by rw [o2 6 (by decide), o2 7 (by decide)]; exact t2), (by rw [o2 6 (by decide), o2 7 (by decide)]; exact t3), (at_tr at0 (o2 7 (by decide)) (o2 12 (by decide))), (at_tr at1 (o2 7 (by decide)) (o2 12 (by decide))), (at_tr at2 (o2 7 (by decide)) (o2 12 (by decide))), (at_tr at3 (o2 7 (by decide)) (o2 12 (by decide))), (ht_tr ht0 (o2 7 (by decide)) (o2 9 (by decide))), (ht_tr ht1 (o2 7 (by decide)) (o2 9 (by decide))), (ht_tr ht2 (o2 7 (by decide)) (o2 9 (by decide))), (ht_tr ht3 (o2 7 (by decide)) (o2 9 (by decide)))⟩
  have hS := hQ2.2
  have hP4 : PW g ad2 20 S4 H := hQ2.1
  have hP3 : PW g ad1 122 S3 H := pw_kept hP3 hk2 (fun i j hi hj e => hne j i hj hi e.symm)
  have hR4 : RR S3 S4 := rr_eq hR (o1 93 (by decide)) (o1 117 (by decide)) (o1 118 (by decide)) (o2 13 (by decide)) (o2 1 (by decide)) (o2 2 (by decide))
  refine lv_icmp_eq (tgt := 2159) hx hb dL_law_2154 (by decide) (fun _ => ?_) (fun h => absurd (pa_eq hR u1_0 u2_0) h)
  exact K S3 S4 H locs ls hG3 hG4 hR4 hP3 hP4 hS hl
