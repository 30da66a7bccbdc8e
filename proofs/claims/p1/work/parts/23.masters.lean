set_option maxHeartbeats 4000000 in
theorem fX11_image (l : Launch) (g : GG) (ad : Nat → Nat) (hD : Dj ad 122) (S : SS) (hX : ∀ i, i < 122 → S i = X0 g ad i) (a1 : Int32) : Met l yX11_image (wG (.code yX11_image cX11_image 2 (some .int))) (Rm 3) (XPre g ad 122 S [.ref (ad 0), .int a1]) (va_Qi (fun r _ => r = ansImage a1) (QB g ad 122) (FA ad 122)) 0 0 (FA ad 122) := by
  rcases pk_ix a1 (n := 3) (by decide) with h | h | ⟨j, hj, rfl⟩
  · exact fX11_image_o l g ad hD S a1 (Or.inl h) hX
  · exact fX11_image_o l g ad hD S a1 (Or.inr h) hX
  · rcases (show j = 0 ∨ j = 1 ∨ j = 2 by omega) with rfl | rfl | rfl
    · exact fX11_image_0 l g ad hD S hX
    · exact fX11_image_1 l g ad hD S hX
    · exact fX11_image_2 l g ad hD S hX
set_option maxHeartbeats 4000000 in
theorem fX11_row (l : Launch) (g : GG) (ad : Nat → Nat) (hD : Dj ad 122) (S : SS) (hX : ∀ i, i < 122 → S i = X0 g ad i) (a1 : Int32) (a2 : Int32) (a3 : Int32) : Met l yX11_row (wG (.code yX11_row cX11_row 4 (some .int))) (Rm 2) (XPre g ad 122 S [.ref (ad 0), .int a1, .int a2, .int a3]) (va_Qi (fun r _ => r = ansRow a1 a2 a3) (QB g ad 122) (FA ad 122)) 0 0 (FA ad 122) := by
  rcases pk_ix a1 (n := 4) (by decide) with h | h | ⟨j, hj, rfl⟩
  · exact fX11_row_o l g ad hD S a1 a2 a3 (Or.inl h) hX
  · exact fX11_row_o l g ad hD S a1 a2 a3 (Or.inr h) hX
  · rcases (show j = 0 ∨ j = 1 ∨ j = 2 ∨ j = 3 by omega) with rfl | rfl | rfl | rfl
    · exact fX11_row_0 l g ad hD S a2 a3 hX
    · exact fX11_row_1 l g ad hD S a2 a3 hX
    · exact fX11_row_2 l g ad hD S a2 a3 hX
    · exact fX11_row_3 l g ad hD S a2 a3 hX
set_option maxHeartbeats 4000000 in
theorem fX12_image (l : Launch) (g : GG) (ad : Nat → Nat) (hD : Dj ad 20) (S : SS) (hX : ∀ i, i < 20 → S i = M0 g ad i) (a1 : Int32) : Met l yX12_image (wG (.code yX12_image cX12_image 2 (some .int))) (Rm 2) (XPre g ad 20 S [.ref (ad 0), .int a1]) (va_Qi (fun r _ => r = ansImage a1) (QB g ad 20) (FA ad 20)) 0 0 (FA ad 20) := by
  rcases pk_ix a1 (n := 3) (by decide) with h | h | ⟨j, hj, rfl⟩
  · exact fX12_image_o l g ad hD S a1 (Or.inl h) hX
  · exact fX12_image_o l g ad hD S a1 (Or.inr h) hX
  · rcases (show j = 0 ∨ j = 1 ∨ j = 2 by omega) with rfl | rfl | rfl
    · exact fX12_image_0 l g ad hD S hX
    · exact fX12_image_1 l g ad hD S hX
    · exact fX12_image_2 l g ad hD S hX
set_option maxHeartbeats 4000000 in
theorem fX12_row (l : Launch) (g : GG) (ad : Nat → Nat) (hD : Dj ad 20) (S : SS) (hX : ∀ i, i < 20 → S i = M0 g ad i) (a1 : Int32) (a2 : Int32) (a3 : Int32) : Met l yX12_row (wG (.code yX12_row cX12_row 5 (some .int))) (Rm 2) (XPre g ad 20 S [.ref (ad 0), .int a1, .int a2, .int a3]) (va_Qi (fun r _ => r = ansRow a1 a2 a3) (QB g ad 20) (FA ad 20)) 0 0 (FA ad 20) := by
  rcases pk_ix a1 (n := 4) (by decide) with h | h | ⟨j, hj, rfl⟩
  · exact fX12_row_o l g ad hD S a1 a2 a3 (Or.inl h) hX
  · exact fX12_row_o l g ad hD S a1 a2 a3 (Or.inr h) hX
  · rcases (show j = 0 ∨ j = 1 ∨ j = 2 ∨ j = 3 by omega) with rfl | rfl | rfl | rfl
    · exact fX12_row_0 l g ad hD S a2 a3 hX
    · exact fX12_row_1 l g ad hD S a2 a3 hX
    · exact fX12_row_2 l g ad hD S a2 a3 hX
    · exact fX12_row_3 l g ad hD S a2 a3 hX
