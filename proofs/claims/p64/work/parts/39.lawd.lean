set_option maxHeartbeats 8000000 in
set_option maxRecDepth 100000 in
theorem law_switch {p : Program} {l : Launch} {e : Env} {s : State} {m : MethodId} {below : List Frame} {meth : Method} {c : Code} {b L : Nat} {xs : Nat → Int32} (C0 : lw_At p s m meth c b L xs) {g : GG} {tt : TT} {ad1 ad2 : Nat → Nat} (hK : KK g s) (hT : TW tt (fun q : Nat => s.heap.size ≤ q) s s.heap) (hD1 : Dj ad1 122) (hD2 : Dj ad2 20) (hA1 : ∀ i, i < 122 → (fun q : Nat => s.heap.size ≤ q) (ad1 i)) (hA2 : ∀ i, i < 20 → (fun q : Nat => s.heap.size ≤ q) (ad2 i)) (hne : ∀ i j, i < 122 → j < 20 → ad1 i ≠ ad2 j) {i : Nat} (hi : i + 6 ≤ L) (hL : L ≤ 3072) {S1 S2 : SS} (hG1 : GX g ad1 S1) (hG2 : GM g ad2 S2) (hR : RR S1 S2) {H : Heap} {locs : List Loc} (hP1 : PW g ad1 122 S1 H) (hP2 : PW g ad2 20 S2 H) (hS : va_S (fun q : Nat => s.heap.size ≤ q) s.heap H locs) {ls : Array Slot} (hl : lv_has ls 4 [(0, .ref b), (1, .ref (ad1 0)), (2, .ref (ad2 0)), (3, .int (nI i))]) (K : (∀ (S1 S2 : SS) (H : Heap) (locs : List Loc) (ls : Array Slot), GX g ad1 S1 → GM g ad2 S2 → RR S1 S2 → PW g ad1 122 S1 H → PW g ad2 20 S2 H → va_S (fun q : Nat => s.heap.size ≤ q) s.heap H locs → lv_has ls 4 [(0, .ref b), (1, .ref (ad1 0)), (2, .ref (ad2 0)), (3, .int (nI i))] → W p l e room_1 s m #[Value.ref b] below meth c H locs 142 12631 (lw_Z below #[Value.ref b] s) (F0 m 2159 ls []))) : W p l e room_1 s m #[Value.ref b] below meth c H locs 142 12631 (lw_Z below #[Value.ref b] s) (F0 m 27 ls []) := by
  obtain ⟨hx, hb, hr, hml, hown, hts, hX, hbl, hlocks, hgv⟩ := id C0
  have hbA : ¬ (fun q : Nat => s.heap.size ≤ q) b := Nat.not_le.mpr hbl
  refine lv_aload_n hx hb dL_law_27 rfl (lv_at hl 0 rfl) ?_
  refine lv_iload_n hx hb dL_law_28 rfl (lv_at hl 3 rfl) ?_
  refine va_sld hx hb hX hbl hbA hS (vp_in_nI (show i < L by omega) (by omega)) dL_law_29 ?_
  refine lv_bipush (v := 63) hx hb dL_law_30 (by decide) ?_
  refine lv_iand hx hb dL_law_32 ?_
  obtain ⟨j, hj, ej⟩ := pk_andE (xs (nI i).toNatClampNeg) (m := 63) 6 (by decide)
  rw [ej]
  rcases (show j = 0 ∨ j = 1 ∨ j = 2 ∨ j = 3 ∨ j = 4 ∨ j = 5 ∨ j = 6 ∨ j = 7 ∨ j = 8 ∨ j = 9 ∨ j = 10 ∨ j = 11 ∨ j = 12 ∨ j = 13 ∨ j = 14 ∨ j = 15 ∨ j = 16 ∨ j = 17 ∨ j = 18 ∨ j = 19 ∨ j = 20 ∨ j = 21 ∨ j = 22 ∨ j = 23 ∨ j = 24 ∨ j = 25 ∨ j = 26 ∨ j = 27 ∨ j = 28 ∨ j = 29 ∨ j = 30 ∨ j = 31 ∨ j = 32 ∨ j = 33 ∨ j = 34 ∨ j = 35 ∨ j = 36 ∨ j = 37 ∨ j = 38 ∨ j = 39 ∨ j = 40 ∨ j = 41 ∨ j = 42 ∨ j = 43 ∨ j = 44 ∨ j = 45 ∨ j = 46 ∨ j = 47 ∨ j = 48 ∨ j = 49 ∨ j = 50 ∨ j = 51 ∨ j = 52 ∨ j = 53 ∨ j = 54 ∨ j = 55 ∨ j = 56 ∨ j = 57 ∨ j = 58 ∨ j = 59 ∨ j = 60 ∨ j = 61 ∨ j = 62 ∨ j = 63 by omega) with rfl | rfl | rfl | rfl | rfl | rfl | rfl | rfl | rfl | rfl | rfl | rfl | rfl | rfl | rfl | rfl | rfl | rfl | rfl | rfl | rfl | rfl | rfl | rfl | rfl | rfl | rfl | rfl | rfl | rfl | rfl | rfl | rfl | rfl | rfl | rfl | rfl | rfl | rfl | rfl | rfl | rfl | rfl | rfl | rfl | rfl | rfl | rfl | rfl | rfl | rfl | rfl | rfl | rfl | rfl | rfl | rfl | rfl | rfl | rfl | rfl | rfl | rfl | rfl
  · refine lv_tableIn (off := 267) (tgt := 300) hx hb dL_law_33 (by decide) (by decide) rfl (by decide) ?_
    exact law_case_0 C0 hK hT hD1 hD2 hA1 hA2 hne hi hL hG1 hG2 hR hP1 hP2 hS hl K
  · refine lv_tableIn (off := 330) (tgt := 363) hx hb dL_law_33 (by decide) (by decide) rfl (by decide) ?_
    exact law_case_1 C0 hK hT hD1 hD2 hA1 hA2 hne hi hL hG1 hG2 hR hP1 hP2 hS hl K
  · refine lv_tableIn (off := 353) (tgt := 386) hx hb dL_law_33 (by decide) (by decide) rfl (by decide) ?_
    exact law_case_2 C0 hK hT hD1 hD2 hA1 hA2 hne hi hL hG1 hG2 hR hP1 hP2 hS hl K
  · refine lv_tableIn (off := 366) (tgt := 399) hx hb dL_law_33 (by decide) (by decide) rfl (by decide) ?_
    exact law_case_3 C0 hK hT hD1 hD2 hA1 hA2 hne hi hL hG1 hG2 hR hP1 hP2 hS hl K
  · refine lv_tableIn (off := 389) (tgt := 422) hx hb dL_law_33 (by decide) (by decide) rfl (by decide) ?_
    exact law_case_4 C0 hK hT hD1 hD2 hA1 hA2 hne hi hL hG1 hG2 hR hP1 hP2 hS hl K
  · refine lv_tableIn (off := 422) (tgt := 455) hx hb dL_law_33 (by decide) (by decide) rfl (by decide) ?_
    exact law_case_5 C0 hK hT hD1 hD2 hA1 hA2 hne hi hL hG1 hG2 hR hP1 hP2 hS hl K
  · refine lv_tableIn (off := 455) (tgt := 488) hx hb dL_law_33 (by decide) (by decide) rfl (by decide) ?_
    exact law_case_6 C0 hK hT hD1 hD2 hA1 hA2 hne hi hL hG1 hG2 hR hP1 hP2 hS hl K
  · refine lv_tableIn (off := 488) (tgt := 521) hx hb dL_law_33 (by decide) (by decide) rfl (by decide) ?_
    exact law_case_7 C0 hK hT hD1 hD2 hA1 hA2 hne hi hL hG1 hG2 hR hP1 hP2 hS hl K
  · refine lv_tableIn (off := 511) (tgt := 544) hx hb dL_law_33 (by decide) (by decide) rfl (by decide) ?_
    exact law_case_8 C0 hK hT hD1 hD2 hA1 hA2 hne hi hL hG1 hG2 hR hP1 hP2 hS hl K
  · refine lv_tableIn (off := 534) (tgt := 567) hx hb dL_law_33 (by decide) (by decide) rfl (by decide) ?_
    exact law_case_9 C0 hK hT hD1 hD2 hA1 hA2 hne hi hL hG1 hG2 hR hP1 hP2 hS hl K
  · refine lv_tableIn (off := 567) (tgt := 600) hx hb dL_law_33 (by decide) (by decide) rfl (by decide) ?_
    exact law_case_10 C0 hK hT hD1 hD2 hA1 hA2 hne hi hL hG1 hG2 hR hP1 hP2 hS hl K
  · refine lv_tableIn (off := 600) (tgt := 633) hx hb dL_law_33 (by decide) (by decide) rfl (by decide) ?_
    exact law_case_11 C0 hK hT hD1 hD2 hA1 hA2 hne hi hL hG1 hG2 hR hP1 hP2 hS hl K
  · refine lv_tableIn (off := 633) (tgt := 666) hx hb dL_law_33 (by decide) (by decide) rfl (by decide) ?_
    exact law_case_12 C0 hK hT hD1 hD2 hA1 hA2 hne hi hL hG1 hG2 hR hP1 hP2 hS hl K
  · refine lv_tableIn (off := 656) (tgt := 689) hx hb dL_law_33 (by decide) (by decide) rfl (by decide) ?_
    exact law_case_13 C0 hK hT hD1 hD2 hA1 hA2 hne hi hL hG1 hG2 hR hP1 hP2 hS hl K
  · refine lv_tableIn (off := 679) (tgt := 712) hx hb dL_law_33 (by decide) (by decide) rfl (by decide) ?_
    exact law_case_14 C0 hK hT hD1 hD2 hA1 hA2 hne hi hL hG1 hG2 hR hP1 hP2 hS hl K
  · refine lv_tableIn (off := 702) (tgt := 735) hx hb dL_law_33 (by decide) (by decide) rfl (by decide) ?_
    exact law_case_15 C0 hK hT hD1 hD2 hA1 hA2 hne hi hL hG1 hG2 hR hP1 hP2 hS hl K
  · refine lv_tableIn (off := 725) (tgt := 758) hx hb dL_law_33 (by decide) (by decide) rfl (by decide) ?_
    exact law_case_16 C0 hK hT hD1 hD2 hA1 hA2 hne hi hL hG1 hG2 hR hP1 hP2 hS hl K
  · refine lv_tableIn (off := 748) (tgt := 781) hx hb dL_law_33 (by decide) (by decide) rfl (by decide) ?_
    exact law_case_17 C0 hK hT hD1 hD2 hA1 hA2 hne hi hL hG1 hG2 hR hP1 hP2 hS hl K
  · refine lv_tableIn (off := 761) (tgt := 794) hx hb dL_law_33 (by decide) (by decide) rfl (by decide) ?_
    exact law_case_18 C0 hK hT hD1 hD2 hA1 hA2 hne hi hL hG1 hG2 hR hP1 hP2 hS hl K
  · refine lv_tableIn (off := 784) (tgt := 817) hx hb dL_law_33 (by decide) (by decide) rfl (by decide) ?_
    exact law_case_19 C0 hK hT hD1 hD2 hA1 hA2 hne hi hL hG1 hG2 hR hP1 hP2 hS hl K
  · refine lv_tableIn (off := 797) (tgt := 830) hx hb dL_law_33 (by decide) (by decide) rfl (by decide) ?_
    exact law_case_20 C0 hK hT hD1 hD2 hA1 hA2 hne hi hL hG1 hG2 hR hP1 hP2 hS hl K
  · refine lv_tableIn (off := 830) (tgt := 863) hx hb dL_law_33 (by decide) (by decide) rfl (by decide) ?_
    exact law_case_21 C0 hK hT hD1 hD2 hA1 hA2 hne hi hL hG1 hG2 hR hP1 hP2 hS hl K
  · refine lv_tableIn (off := 853) (tgt := 886) hx hb dL_law_33 (by decide) (by decide) rfl (by decide) ?_
    exact law_case_22 C0 hK hT hD1 hD2 hA1 hA2 hne hi hL hG1 hG2 hR hP1 hP2 hS hl K
  · refine lv_tableIn (off := 886) (tgt := 919) hx hb dL_law_33 (by decide) (by decide) rfl (by decide) ?_
    exact law_case_23 C0 hK hT hD1 hD2 hA1 hA2 hne hi hL hG1 hG2 hR hP1 hP2 hS hl K
  · refine lv_tableIn (off := 929) (tgt := 962) hx hb dL_law_33 (by decide) (by decide) rfl (by decide) ?_
    exact law_case_24 C0 hK hT hD1 hD2 hA1 hA2 hne hi hL hG1 hG2 hR hP1 hP2 hS hl K
  · refine lv_tableIn (off := 972) (tgt := 1005) hx hb dL_law_33 (by decide) (by decide) rfl (by decide) ?_
    exact law_case_25 C0 hK hT hD1 hD2 hA1 hA2 hne hi hL hG1 hG2 hR hP1 hP2 hS hl K
  · refine lv_tableIn (off := 1005) (tgt := 1038) hx hb dL_law_33 (by decide) (by decide) rfl (by decide) ?_
    exact law_case_26 C0 hK hT hD1 hD2 hA1 hA2 hne hi hL hG1 hG2 hR hP1 hP2 hS hl K
  · refine lv_tableIn (off := 1038) (tgt := 1071) hx hb dL_law_33 (by decide) (by decide) rfl (by decide) ?_
    exact law_case_27 C0 hK hT hD1 hD2 hA1 hA2 hne hi hL hG1 hG2 hR hP1 hP2 hS hl K
  · refine lv_tableIn (off := 1061) (tgt := 1094) hx hb dL_law_33 (by decide) (by decide) rfl (by decide) ?_
    exact law_case_28 C0 hK hT hD1 hD2 hA1 hA2 hne hi hL hG1 hG2 hR hP1 hP2 hS hl K
  · refine lv_tableIn (off := 1074) (tgt := 1107) hx hb dL_law_33 (by decide) (by decide) rfl (by decide) ?_
    exact law_case_29 C0 hK hT hD1 hD2 hA1 hA2 hne hi hL hG1 hG2 hR hP1 hP2 hS hl K
  · refine lv_tableIn (off := 1107) (tgt := 1140) hx hb dL_law_33 (by decide) (by decide) rfl (by decide) ?_
    exact law_case_30 C0 hK hT hD1 hD2 hA1 hA2 hne hi hL hG1 hG2 hR hP1 hP2 hS hl K
  · refine lv_tableIn (off := 1130) (tgt := 1163) hx hb dL_law_33 (by decide) (by decide) rfl (by decide) ?_
    exact law_case_31 C0 hK hT hD1 hD2 hA1 hA2 hne hi hL hG1 hG2 hR hP1 hP2 hS hl K
  · refine lv_tableIn (off := 1153) (tgt := 1186) hx hb dL_law_33 (by decide) (by decide) rfl (by decide) ?_
    exact law_case_32 C0 hK hT hD1 hD2 hA1 hA2 hne hi hL hG1 hG2 hR hP1 hP2 hS hl K
  · refine lv_tableIn (off := 1176) (tgt := 1209) hx hb dL_law_33 (by decide) (by decide) rfl (by decide) ?_
    exact law_case_33 C0 hK hT hD1 hD2 hA1 hA2 hne hi hL hG1 hG2 hR hP1 hP2 hS hl K
  · refine lv_tableIn (off := 1189) (tgt := 1222) hx hb dL_law_33 (by decide) (by decide) rfl (by decide) ?_
    exact law_case_34 C0 hK hT hD1 hD2 hA1 hA2 hne hi hL hG1 hG2 hR hP1 hP2 hS hl K
  · refine lv_tableIn (off := 1222) (tgt := 1255) hx hb dL_law_33 (by decide) (by decide) rfl (by decide) ?_
    exact law_case_35 C0 hK hT hD1 hD2 hA1 hA2 hne hi hL hG1 hG2 hR hP1 hP2 hS hl K
  · refine lv_tableIn (off := 1245) (tgt := 1278) hx hb dL_law_33 (by decide) (by decide) rfl (by decide) ?_
    exact law_case_36 C0 hK hT hD1 hD2 hA1 hA2 hne hi hL hG1 hG2 hR hP1 hP2 hS hl K
  · refine lv_tableIn (off := 1268) (tgt := 1301) hx hb dL_law_33 (by decide) (by decide) rfl (by decide) ?_
    exact law_case_37 C0 hK hT hD1 hD2 hA1 hA2 hne hi hL hG1 hG2 hR hP1 hP2 hS hl K
  · refine lv_tableIn (off := 1311) (tgt := 1344) hx hb dL_law_33 (by decide) (by decide) rfl (by decide) ?_
    exact law_case_38 C0 hK hT hD1 hD2 hA1 hA2 hne hi hL hG1 hG2 hR hP1 hP2 hS hl K
  · refine lv_tableIn (off := 1354) (tgt := 1387) hx hb dL_law_33 (by decide) (by decide) rfl (by decide) ?_
    exact law_case_39 C0 hK hT hD1 hD2 hA1 hA2 hne hi hL hG1 hG2 hR hP1 hP2 hS hl K
  · refine lv_tableIn (off := 1377) (tgt := 1410) hx hb dL_law_33 (by decide) (by decide) rfl (by decide) ?_
    exact law_case_40 C0 hK hT hD1 hD2 hA1 hA2 hne hi hL hG1 hG2 hR hP1 hP2 hS hl K
  · refine lv_tableIn (off := 1410) (tgt := 1443) hx hb dL_law_33 (by decide) (by decide) rfl (by decide) ?_
    exact law_case_41 C0 hK hT hD1 hD2 hA1 hA2 hne hi hL hG1 hG2 hR hP1 hP2 hS hl K
  · refine lv_tableIn (off := 1433) (tgt := 1466) hx hb dL_law_33 (by decide) (by decide) rfl (by decide) ?_
    exact law_case_42 C0 hK hT hD1 hD2 hA1 hA2 hne hi hL hG1 hG2 hR hP1 hP2 hS hl K
  · refine lv_tableIn (off := 1456) (tgt := 1489) hx hb dL_law_33 (by decide) (by decide) rfl (by decide) ?_
    exact law_case_43 C0 hK hT hD1 hD2 hA1 hA2 hne hi hL hG1 hG2 hR hP1 hP2 hS hl K
  · refine lv_tableIn (off := 1489) (tgt := 1522) hx hb dL_law_33 (by decide) (by decide) rfl (by decide) ?_
    exact law_case_44 C0 hK hT hD1 hD2 hA1 hA2 hne hi hL hG1 hG2 hR hP1 hP2 hS hl K
  · refine lv_tableIn (off := 1512) (tgt := 1545) hx hb dL_law_33 (by decide) (by decide) rfl (by decide) ?_
    exact law_case_45 C0 hK hT hD1 hD2 hA1 hA2 hne hi hL hG1 hG2 hR hP1 hP2 hS hl K
  · refine lv_tableIn (off := 1525) (tgt := 1558) hx hb dL_law_33 (by decide) (by decide) rfl (by decide) ?_
    exact law_case_46 C0 hK hT hD1 hD2 hA1 hA2 hne hi hL hG1 hG2 hR hP1 hP2 hS hl K
  · refine lv_tableIn (off := 1548) (tgt := 1581) hx hb dL_law_33 (by decide) (by decide) rfl (by decide) ?_
    exact law_case_47 C0 hK hT hD1 hD2 hA1 hA2 hne hi hL hG1 hG2 hR hP1 hP2 hS hl K
  · refine lv_tableIn (off := 1581) (tgt := 1614) hx hb dL_law_33 (by decide) (by decide) rfl (by decide) ?_
    exact law_case_48 C0 hK hT hD1 hD2 hA1 hA2 hne hi hL hG1 hG2 hR hP1 hP2 hS hl K
  · refine lv_tableIn (off := 1604) (tgt := 1637) hx hb dL_law_33 (by decide) (by decide) rfl (by decide) ?_
    exact law_case_49 C0 hK hT hD1 hD2 hA1 hA2 hne hi hL hG1 hG2 hR hP1 hP2 hS hl K
  · refine lv_tableIn (off := 1637) (tgt := 1670) hx hb dL_law_33 (by decide) (by decide) rfl (by decide) ?_
    exact law_case_50 C0 hK hT hD1 hD2 hA1 hA2 hne hi hL hG1 hG2 hR hP1 hP2 hS hl K
  · refine lv_tableIn (off := 1680) (tgt := 1713) hx hb dL_law_33 (by decide) (by decide) rfl (by decide) ?_
    exact law_case_51 C0 hK hT hD1 hD2 hA1 hA2 hne hi hL hG1 hG2 hR hP1 hP2 hS hl K
  · refine lv_tableIn (off := 1693) (tgt := 1726) hx hb dL_law_33 (by decide) (by decide) rfl (by decide) ?_
    exact law_case_52 C0 hK hT hD1 hD2 hA1 hA2 hne hi hL hG1 hG2 hR hP1 hP2 hS hl K
  · refine lv_tableIn (off := 1706) (tgt := 1739) hx hb dL_law_33 (by decide) (by decide) rfl (by decide) ?_
    exact law_case_53 C0 hK hT hD1 hD2 hA1 hA2 hne hi hL hG1 hG2 hR hP1 hP2 hS hl K
  · refine lv_tableIn (off := 1749) (tgt := 1782) hx hb dL_law_33 (by decide) (by decide) rfl (by decide) ?_
    exact law_case_54 C0 hK hT hD1 hD2 hA1 hA2 hne hi hL hG1 hG2 hR hP1 hP2 hS hl K
  · refine lv_tableIn (off := 1802) (tgt := 1835) hx hb dL_law_33 (by decide) (by decide) rfl (by decide) ?_
    exact law_case_55 C0 hK hT hD1 hD2 hA1 hA2 hne hi hL hG1 hG2 hR hP1 hP2 hS hl K
  · refine lv_tableIn (off := 1845) (tgt := 1878) hx hb dL_law_33 (by decide) (by decide) rfl (by decide) ?_
    exact law_case_56 C0 hK hT hD1 hD2 hA1 hA2 hne hi hL hG1 hG2 hR hP1 hP2 hS hl K
  · refine lv_tableIn (off := 1878) (tgt := 1911) hx hb dL_law_33 (by decide) (by decide) rfl (by decide) ?_
    exact law_case_57 C0 hK hT hD1 hD2 hA1 hA2 hne hi hL hG1 hG2 hR hP1 hP2 hS hl K
  · refine lv_tableIn (off := 1901) (tgt := 1934) hx hb dL_law_33 (by decide) (by decide) rfl (by decide) ?_
    exact law_case_58 C0 hK hT hD1 hD2 hA1 hA2 hne hi hL hG1 hG2 hR hP1 hP2 hS hl K
  · refine lv_tableIn (off := 1924) (tgt := 1957) hx hb dL_law_33 (by decide) (by decide) rfl (by decide) ?_
    exact law_case_59 C0 hK hT hD1 hD2 hA1 hA2 hne hi hL hG1 hG2 hR hP1 hP2 hS hl K
  · refine lv_tableIn (off := 1947) (tgt := 1980) hx hb dL_law_33 (by decide) (by decide) rfl (by decide) ?_
    exact law_case_60 C0 hK hT hD1 hD2 hA1 hA2 hne hi hL hG1 hG2 hR hP1 hP2 hS hl K
  · refine lv_tableIn (off := 1990) (tgt := 2023) hx hb dL_law_33 (by decide) (by decide) rfl (by decide) ?_
    exact law_case_61 C0 hK hT hD1 hD2 hA1 hA2 hne hi hL hG1 hG2 hR hP1 hP2 hS hl K
  · refine lv_tableIn (off := 2063) (tgt := 2096) hx hb dL_law_33 (by decide) (by decide) rfl (by decide) ?_
    exact law_case_62 C0 hK hT hD1 hD2 hA1 hA2 hne hi hL hG1 hG2 hR hP1 hP2 hS hl K
  · refine lv_tableOut (tgt := 2159) hx hb dL_law_33 (by decide) (by decide) ?_
    exact K S1 S2 H locs ls hG1 hG2 hR hP1 hP2 hS hl
set_option maxHeartbeats 8000000 in
set_option maxRecDepth 100000 in
theorem law_loop {p : Program} {l : Launch} {e : Env} {s : State} {m : MethodId} {below : List Frame} {meth : Method} {c : Code} {b L : Nat} {xs : Nat → Int32} (C0 : lw_At p s m meth c b L xs) {g : GG} {tt : TT} {ad1 ad2 : Nat → Nat} (hK : KK g s) (hT : TW tt (fun q : Nat => s.heap.size ≤ q) s s.heap) (hD1 : Dj ad1 122) (hD2 : Dj ad2 20) (hA1 : ∀ i, i < 122 → (fun q : Nat => s.heap.size ≤ q) (ad1 i)) (hA2 : ∀ i, i < 20 → (fun q : Nat => s.heap.size ≤ q) (ad2 i)) (hne : ∀ i j, i < 122 → j < 20 → ad1 i ≠ ad2 j) (hL : L ≤ 3072) : ∀ (n i : Nat), L < i + n → i ≤ L → ∀ (S1 S2 : SS) (H : Heap) (locs : List Loc) (ls : Array Slot), GX g ad1 S1 → GM g ad2 S2 → RR S1 S2 → PW g ad1 122 S1 H → PW g ad2 20 S2 H → va_S (fun q : Nat => s.heap.size ≤ q) s.heap H locs → lv_has ls 4 [(0, .ref b), (1, .ref (ad1 0)), (2, .ref (ad2 0)), (3, .int (nI i))] → W p l e room_1 s m #[Value.ref b] below meth c H locs 142 12631 (lw_Z below #[Value.ref b] s) (F0 m 18 ls []) := by
  obtain ⟨hx, hb, hr, hml, hown, hts, hX, hbl, hlocks, hgv⟩ := id C0
  have hbA : ¬ (fun q : Nat => s.heap.size ≤ q) b := Nat.not_le.mpr hbl
  intro n
  induction n with
  | zero => intro i h1 h2; omega
  | succ n ih =>
    intro i h1 h2 S1 S2 H locs ls hG1 hG2 hR hP1 hP2 hS hl
    refine lv_iload_n hx hb dL_law_18 rfl (lv_at hl 3 rfl) ?_
    refine lv_aload_n hx hb dL_law_19 rfl (lv_at hl 0 rfl) ?_
    refine va_slen hx hb hX hbl hbA hS dL_law_20 ?_
    refine lv_bipush (v := 6) hx hb dL_law_21 (by decide) ?_
    refine lv_isub hx hb dL_law_23 ?_
    refine lv_topi (fun z ez => ?_)
    have hLi : (Int32.ofNat L).toInt = (L : Int) := nI_toInt (by omega)
    have h6 : (6 : Int32).toInt = 6 := by decide
    have hz : z.toInt = (L : Int) - 6 := by rw [ez, Int32.toInt_sub, hLi, h6, ib_bm (by omega) (by omega)]
    have hii : (nI i).toInt = (i : Int) := nI_toInt (by omega)
    refine lv_icmp_gt (tgt := 2165) hx hb dL_law_24 (by decide) (fun _ => ?_) (fun hc => ?_)
    · refine lv_iconst (v := 1) hx hb dL_law_2165 (by decide) ?_
      refine va_forget (fun q hq => hS.2.2 q hq) ?_
      refine W.widen (k := 600000) (n := 7302250) (Nat.le_of_ble_eq_true rfl) (Nat.le_of_ble_eq_true rfl) ?_
      exact lw_ret hx hb hr hlocks dL_law_2166
    · have hi6 : i + 6 ≤ L := by have := ib_nlt hc; omega
      refine law_switch C0 hK hT hD1 hD2 hA1 hA2 hne hi6 hL hG1 hG2 hR hP1 hP2 hS hl (fun S3 S4 H locs ls hG3 hG4 hR4 hP3 hP4 hS hl => ?_)
      refine lv_iinc (v := nI (i + 6)) (lv' := [(3, .int (nI (i + 6))), (0, .ref b), (1, .ref (ad1 0)), (2, .ref (ad2 0))]) hx hb dL_law_2159 hl (k := 3) rfl (nI_add i 6) (by decide) rfl (fun ls hl => ?_)
      refine lv_goto (tgt := 18) hx hb dL_law_2162 (by decide) ?_
      exact ih (i + 6) (by omega) hi6 S3 S4 H locs ls hG3 hG4 hR4 hP3 hP4 hS (lv_sub hl [1, 2, 3, 0] rfl)
set_option maxHeartbeats 8000000 in
set_option maxRecDepth 100000 in
theorem whole_start {p : Program} {e : Env} {s : State} {m : MethodId} {below : List Frame} {meth : Method} {c : Code} (l : Launch) {b L : Nat} {xs : Nat → Int32} (hL : L ≤ 3072) (C0 : lw_At p s m meth c b L xs) : W p l e room_1 s m #[Value.ref b] below meth c s.heap [] 0 0 (lw_Z below #[Value.ref b] s) (entryFrame m ([Value.ref b] : List Value).toArray 4) := by
  obtain ⟨hx, hb, hr, hml, hown, hts, hX, hbl, hlocks, hgv⟩ := id C0
  obtain ⟨g, hK⟩ := kk_at hts
  have hNW := nw_at hts
  obtain ⟨tt, hT⟩ := tw_at hgv hts
  have hA : ∀ q : Nat, s.heap.size ≤ q → (fun q : Nat => s.heap.size ≤ q) q := fun _ h => h
  have hbA : ¬ (fun q : Nat => s.heap.size ≤ q) b := Nat.not_le.mpr hbl
  have E : Ev p s m #[Value.ref b] c cL_law "EbbWreckLaw" g := ⟨hx, hb, hown, fun w h => hts w (List.mem_filter.mp h).1, hK⟩
  have hS : va_S (fun q : Nat => s.heap.size ≤ q) s.heap s.heap [] := va_S.rf
  have hP : va_P g.1 vwCl [] s.heap := fun k q h => by simp at h
  have hD : va_D (fun q : Nat => s.heap.size ≤ q) [] := ⟨fun i j p q h => by simp at h, fun k q h => by simp at h⟩
  have hl := lv_entry ([.ref b]) (n := 4) (Nat.le_of_ble_eq_true rfl)
  rw [lg_entry_eq]
  generalize (lg_sl ([.ref b]) ++ List.replicate (4 - (lg_sl ([.ref b])).length) Slot.unset).toArray = ls at hl ⊢
  have hl : lv_has ls 4 [(0, .ref b)] := hl
  refine cnew (ci := 11) (fs := (.null :: .int 0 :: .int 0 :: .int 0 :: .null :: .null :: .null :: .null :: .null :: .null :: .null :: .null :: .null :: .null :: .null :: [])) E hP hD hS hA rfl q135 q136 q114 tyX11 tyX11_ok (fun j hj => by rcases (show j = 0 ∨ j = 1 ∨ j = 2 ∨ j = 3 ∨ j = 4 ∨ j = 5 ∨ j = 6 ∨ j = 7 ∨ j = 8 ∨ j = 9 ∨ j = 10 ∨ j = 11 ∨ j = 12 ∨ j = 13 ∨ j = 14 by omega) with rfl | rfl | rfl | rfl | rfl | rfl | rfl | rfl | rfl | rfl | rfl | rfl | rfl | rfl | rfl <;> rfl) (Nat.le_of_ble_eq_true rfl) (Nat.le_of_ble_eq_true rfl) dL_law_0 (fun q1 H hP hD hS => ?_)
  have hP : va_P g.1 vwCl ([] ++ [(q1, .inr (11, (.null :: .int 0 :: .int 0 :: .int 0 :: .null :: .null :: .null :: .null :: .null :: .null :: .null :: .null :: .null :: .null :: .null :: [])))]) H := hP
  have hD : va_D (fun q : Nat => s.heap.size ≤ q) ([] ++ [(q1, .inr (11, (.null :: .int 0 :: .int 0 :: .int 0 :: .null :: .null :: .null :: .null :: .null :: .null :: .null :: .null :: .null :: .null :: .null :: [])))]) := hD
  refine lv_dup hx hb dL_law_3 rfl ?_
  refine ccI (n := 0) (wr := []) (As := []) (rest := [.ref q1]) E hNW hml hl.1 hP hD hS hA (kX l g H.size q1) q137 q138 q139 q114 rfl rfl rfl ⟨by decide, by decide, by decide +kernel⟩ rfl ⟨(Nat.le_of_ble_eq_true rfl), (Nat.le_of_ble_eq_true rfl)⟩ ⟨(Nat.le_of_ble_eq_true rfl), (Nat.le_of_ble_eq_true rfl)⟩ (Nat.le_of_ble_eq_true rfl) rfl dL_law_4 (fun u1 H locs hP hD hS _ => ?_)
  obtain ⟨ad1, ead1⟩ : ∃ a, a = va_up u1 0 q1 := ⟨_, rfl⟩
  rw [← ead1] at hP hD
  have h10 : q1 = ad1 0 := by rw [ead1, va_up_self]
  rw [h10]
  clear ead1 h10
  have hP : va_P g.1 vwCl (wl ad1 122 (X0 g ad1)) H := hP
  have hD : va_D (fun q : Nat => s.heap.size ≤ q) (wl ad1 122 (X0 g ad1)) := hD
  refine lv_astore_n (lv' := [(1, .ref (ad1 0)), (0, .ref b)]) hx hb dL_law_7 rfl hl (by decide) rfl (fun ls hl => ?_)
  refine cnew (ci := 12) (fs := (.int 0 :: .null :: .null :: .null :: .null :: .null :: .int 0 :: .int 0 :: .int 0 :: .int 0 :: .int 0 :: .long 0 :: .int 0 :: .int 0 :: .int 0 :: .int 0 :: .null :: .null :: .null :: .null :: .null :: .null :: .null :: .null :: .null :: .null :: .int 0 :: .int 0 :: .null :: .int 0 :: .int 0 :: .int 0 :: .int 0 :: .int 0 :: .null :: .null :: .int 0 :: .null :: [])) E hP hD hS hA rfl q1462 q1463 q127 tyX12 tyX12_ok (fun j hj => by rcases (show j = 0 ∨ j = 1 ∨ j = 2 ∨ j = 3 ∨ j = 4 ∨ j = 5 ∨ j = 6 ∨ j = 7 ∨ j = 8 ∨ j = 9 ∨ j = 10 ∨ j = 11 ∨ j = 12 ∨ j = 13 ∨ j = 14 ∨ j = 15 ∨ j = 16 ∨ j = 17 ∨ j = 18 ∨ j = 19 ∨ j = 20 ∨ j = 21 ∨ j = 22 ∨ j = 23 ∨ j = 24 ∨ j = 25 ∨ j = 26 ∨ j = 27 ∨ j = 28 ∨ j = 29 ∨ j = 30 ∨ j = 31 ∨ j = 32 ∨ j = 33 ∨ j = 34 ∨ j = 35 ∨ j = 36 ∨ j = 37 by omega) with rfl | rfl | rfl | rfl | rfl | rfl | rfl | rfl | rfl | rfl | rfl | rfl | rfl | rfl | rfl | rfl | rfl | rfl | rfl | rfl | rfl | rfl | rfl | rfl | rfl | rfl | rfl | rfl | rfl | rfl | rfl | rfl | rfl | rfl | rfl | rfl | rfl | rfl <;> rfl) (Nat.le_of_ble_eq_true rfl) (Nat.le_of_ble_eq_true rfl) dL_law_8 (fun q2 H hP hD hS => ?_)
  refine lv_dup hx hb dL_law_11 rfl ?_
  refine ccI (n := 0) (wr := wl ad1 122 (X0 g ad1)) (As := []) (rest := [.ref q2]) E hNW hml hl.1 hP hD hS hA (kModel l g H.size q2) q1464 q1465 q1466 q127 rfl rfl rfl ⟨by decide, by decide, by decide +kernel⟩ rfl ⟨(Nat.le_of_ble_eq_true rfl), (Nat.le_of_ble_eq_true rfl)⟩ ⟨(Nat.le_of_ble_eq_true rfl), (Nat.le_of_ble_eq_true rfl)⟩ (Nat.le_of_ble_eq_true rfl) rfl dL_law_12 (fun u2 H locs hP hD hS _ => ?_)
  obtain ⟨ad2, ead2⟩ : ∃ a, a = va_up u2 0 q2 := ⟨_, rfl⟩
  rw [← ead2] at hP hD
  have h20 : q2 = ad2 0 := by rw [ead2, va_up_self]
  rw [h20]
  clear ead2 h20
  have hP : va_P g.1 vwCl (wl ad1 122 (X0 g ad1) ++ wl ad2 20 (M0 g ad2)) H := hP
  have hD : va_D (fun q : Nat => s.heap.size ≤ q) (wl ad1 122 (X0 g ad1) ++ wl ad2 20 (M0 g ad2)) := hD
  obtain ⟨hP1, hP2, hD1, hD2, hA1, hA2, hne⟩ := two_pools hP hD
  refine lv_astore_n (lv' := [(2, .ref (ad2 0)), (1, .ref (ad1 0)), (0, .ref b)]) hx hb dL_law_15 rfl hl (by decide) rfl (fun ls hl => ?_)
  refine lv_iconst (v := 0) hx hb dL_law_16 (by decide) ?_
  refine lv_istore_n (lv' := [(3, .int 0), (2, .ref (ad2 0)), (1, .ref (ad1 0)), (0, .ref b)]) hx hb dL_law_17 rfl hl (by decide) rfl (fun ls hl => ?_)
  refine W.widen (k := 142) (n := 12631) (Nat.le_of_ble_eq_true rfl) (Nat.le_of_ble_eq_true rfl) ?_
  exact law_loop C0 hK hT hD1 hD2 hA1 hA2 hne hL (L + 1) 0 (by omega) (Nat.zero_le L) (X0 g ad1) (M0 g ad2) H _ ls (gx0 g ad1) (gm0 g ad2) (rr0 g ad1 ad2) hP1 hP2 hS (lv_sub hl [3, 2, 1, 0] rfl)
