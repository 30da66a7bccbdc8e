abbrev zf : Nat → Int32 := fun _ => 0
abbrev zfL : Nat → Int64 := fun _ => 0
def fillF (v : Int32) (n : Nat) (f : Nat → Int32) : Nat → Int32 := fun j => if j < n then v else f j
def szF : Nat → Int32 := fillF (-1) 4 zf
def wdF : Nat → Int32 := upd (upd (upd (upd zf 0 (-1)) 1 (-1)) 2 (-1)) 3 (-1)
def imG (a b c : Nat) : Nat → Option Nat := fun j => match j with
  | 0 => some a
  | 1 => some b
  | 2 => some c
  | _ => none
def nuG (a b c d : Nat) : Nat → Option Nat := fun j => match j with
  | 0 => some a
  | 1 => some b
  | 2 => some c
  | 3 => some d
  | _ => none
def imF (ad : Nat → Nat) : Nat → Option Nat := imG (ad 39) (ad 57) (ad 75)
def nuF (ad : Nat → Nat) : Nat → Option Nat := nuG (ad 113) (ad 114) (ad 115) (ad 116)
theorem nu_eq (q : Nat) : (fun i => if i < 4 then some (q + 1 + i) else none) = nuG (q + 1) (q + 2) (q + 3) (q + 4) := by
  funext j
  rcases (show j = 0 ∨ j = 1 ∨ j = 2 ∨ j = 3 ∨ 4 ≤ j by omega) with rfl | rfl | rfl | rfl | h
  · rfl
  · rfl
  · rfl
  · rfl
  · rw [if_neg (by omega)]
    match j, h with
    | j + 4, _ => rfl
theorem im_eq (a b c : Nat) : va_up (va_up (va_up (fun _ => none) 0 (some a)) 1 (some b)) 2 (some c) = imG a b c := by
  funext j
  rcases (show j = 0 ∨ j = 1 ∨ j = 2 ∨ 3 ≤ j by omega) with rfl | rfl | rfl | h
  · rfl
  · rfl
  · rfl
  · rw [va_up_ne _ _ (by omega), va_up_ne _ _ (by omega), va_up_ne _ _ (by omega)]
    match j, h with
    | j + 3, _ => rfl
def X0_0 (g : GG) (ad : Nat → Nat) : SS := fun i => match i with
  | 0 => .inr (11, [.ref (ad 1), .int 0, .int 0, .int (-1), .ref (ad 2), .ref (ad 20), .ref (ad 38), .ref (ad 93), .ref (ad 94), .ref (ad 95), .ref (ad 102), .ref (ad 104), .ref (ad 107), .ref (ad 111), .ref (ad 119)])
  | 1 => .inl (g.2 1, 1200, .inl zf)
  | 2 => .inr (1, [.int 0, .int 0, .int 0, .ref (ad 3), .ref (ad 5), .ref (ad 6), .int 0, .int 0, .ref (ad 7), .ref (ad 8), .ref (ad 9), .ref (ad 10), .int 0, .ref (ad 15), .ref (ad 16)])
  | 3 => .inr (10, [.int 0, .int 0, .int 0, .int 0, .ref (ad 4)])
  | 4 => .inl (g.2 0, 36, .inl zf)
  | 5 => .inl (g.2 0, 12, .inl zf)
  | 6 => .inl (g.2 0, 12, .inl zf)
  | 7 => .inl (g.2 0, 8, .inl zf)
  | 8 => .inl (g.2 0, 8, .inl zf)
  | 9 => .inl (g.2 0, 8, .inl zf)
  | _ => .inr (0, [])
def X0_1 (g : GG) (ad : Nat → Nat) : SS := fun i => match i with
  | 0 => .inr (6, [.int 0, .ref (ad 11), .ref (ad 12), .ref (ad 13), .ref (ad 14)])
  | 1 => .inl (g.2 0, 6, .inl zf)
  | 2 => .inl (g.2 0, 6, .inl zf)
  | 3 => .inl (g.2 0, 6, .inl zf)
  | 4 => .inl (g.2 0, 6, .inl zf)
  | 5 => .inl (g.2 0, 3, .inl zf)
  | 6 => .inr (0, [.int 0, .ref (ad 17), .ref (ad 18), .ref (ad 19)])
  | 7 => .inl (g.2 0, 40, .inl zf)
  | 8 => .inl (g.2 0, 40, .inl zf)
  | 9 => .inl (g.2 0, 40, .inl zf)
  | _ => .inr (0, [])
def X0_2 (g : GG) (ad : Nat → Nat) : SS := fun i => match i with
  | 0 => .inr (1, [.int 0, .int 0, .int 0, .ref (ad 21), .ref (ad 23), .ref (ad 24), .int 0, .int 0, .ref (ad 25), .ref (ad 26), .ref (ad 27), .ref (ad 28), .int 0, .ref (ad 33), .ref (ad 34)])
  | 1 => .inr (10, [.int 0, .int 0, .int 0, .int 0, .ref (ad 22)])
  | 2 => .inl (g.2 0, 36, .inl zf)
  | 3 => .inl (g.2 0, 12, .inl zf)
  | 4 => .inl (g.2 0, 12, .inl zf)
  | 5 => .inl (g.2 0, 8, .inl zf)
  | 6 => .inl (g.2 0, 8, .inl zf)
  | 7 => .inl (g.2 0, 8, .inl zf)
  | 8 => .inr (6, [.int 0, .ref (ad 29), .ref (ad 30), .ref (ad 31), .ref (ad 32)])
  | 9 => .inl (g.2 0, 6, .inl zf)
  | _ => .inr (0, [])
def X0_3 (g : GG) (ad : Nat → Nat) : SS := fun i => match i with
  | 0 => .inl (g.2 0, 6, .inl zf)
  | 1 => .inl (g.2 0, 6, .inl zf)
  | 2 => .inl (g.2 0, 6, .inl zf)
  | 3 => .inl (g.2 0, 3, .inl zf)
  | 4 => .inr (0, [.int 0, .ref (ad 35), .ref (ad 36), .ref (ad 37)])
  | 5 => .inl (g.2 0, 40, .inl zf)
  | 6 => .inl (g.2 0, 40, .inl zf)
  | 7 => .inl (g.2 0, 40, .inl zf)
  | 8 => .inl (g.2 4, 3, .inr (.inr (.inr (.inr (imF ad)))))
  | 9 => .inr (1, [.int 0, .int 0, .int 0, .ref (ad 40), .ref (ad 42), .ref (ad 43), .int 0, .int 0, .ref (ad 44), .ref (ad 45), .ref (ad 46), .ref (ad 47), .int 0, .ref (ad 52), .ref (ad 53)])
  | _ => .inr (0, [])
def X0_4 (g : GG) (ad : Nat → Nat) : SS := fun i => match i with
  | 0 => .inr (10, [.int 0, .int 0, .int 0, .int 0, .ref (ad 41)])
  | 1 => .inl (g.2 0, 36, .inl zf)
  | 2 => .inl (g.2 0, 12, .inl zf)
  | 3 => .inl (g.2 0, 12, .inl zf)
  | 4 => .inl (g.2 0, 8, .inl zf)
  | 5 => .inl (g.2 0, 8, .inl zf)
  | 6 => .inl (g.2 0, 8, .inl zf)
  | 7 => .inr (6, [.int 0, .ref (ad 48), .ref (ad 49), .ref (ad 50), .ref (ad 51)])
  | 8 => .inl (g.2 0, 6, .inl zf)
  | 9 => .inl (g.2 0, 6, .inl zf)
  | _ => .inr (0, [])
def X0_5 (g : GG) (ad : Nat → Nat) : SS := fun i => match i with
  | 0 => .inl (g.2 0, 6, .inl zf)
  | 1 => .inl (g.2 0, 6, .inl zf)
  | 2 => .inl (g.2 0, 3, .inl zf)
  | 3 => .inr (0, [.int 0, .ref (ad 54), .ref (ad 55), .ref (ad 56)])
  | 4 => .inl (g.2 0, 40, .inl zf)
  | 5 => .inl (g.2 0, 40, .inl zf)
  | 6 => .inl (g.2 0, 40, .inl zf)
  | 7 => .inr (1, [.int 0, .int 0, .int 0, .ref (ad 58), .ref (ad 60), .ref (ad 61), .int 0, .int 0, .ref (ad 62), .ref (ad 63), .ref (ad 64), .ref (ad 65), .int 0, .ref (ad 70), .ref (ad 71)])
  | 8 => .inr (10, [.int 0, .int 0, .int 0, .int 0, .ref (ad 59)])
  | 9 => .inl (g.2 0, 36, .inl zf)
  | _ => .inr (0, [])
def X0_6 (g : GG) (ad : Nat → Nat) : SS := fun i => match i with
  | 0 => .inl (g.2 0, 12, .inl zf)
  | 1 => .inl (g.2 0, 12, .inl zf)
  | 2 => .inl (g.2 0, 8, .inl zf)
  | 3 => .inl (g.2 0, 8, .inl zf)
  | 4 => .inl (g.2 0, 8, .inl zf)
  | 5 => .inr (6, [.int 0, .ref (ad 66), .ref (ad 67), .ref (ad 68), .ref (ad 69)])
  | 6 => .inl (g.2 0, 6, .inl zf)
  | 7 => .inl (g.2 0, 6, .inl zf)
  | 8 => .inl (g.2 0, 6, .inl zf)
  | 9 => .inl (g.2 0, 6, .inl zf)
  | _ => .inr (0, [])
def X0_7 (g : GG) (ad : Nat → Nat) : SS := fun i => match i with
  | 0 => .inl (g.2 0, 3, .inl zf)
  | 1 => .inr (0, [.int 0, .ref (ad 72), .ref (ad 73), .ref (ad 74)])
  | 2 => .inl (g.2 0, 40, .inl zf)
  | 3 => .inl (g.2 0, 40, .inl zf)
  | 4 => .inl (g.2 0, 40, .inl zf)
  | 5 => .inr (1, [.int 0, .int 0, .int 0, .ref (ad 76), .ref (ad 78), .ref (ad 79), .int 0, .int 0, .ref (ad 80), .ref (ad 81), .ref (ad 82), .ref (ad 83), .int 0, .ref (ad 88), .ref (ad 89)])
  | 6 => .inr (10, [.int 0, .int 0, .int 0, .int 0, .ref (ad 77)])
  | 7 => .inl (g.2 0, 36, .inl zf)
  | 8 => .inl (g.2 0, 12, .inl zf)
  | 9 => .inl (g.2 0, 12, .inl zf)
  | _ => .inr (0, [])
def X0_8 (g : GG) (ad : Nat → Nat) : SS := fun i => match i with
  | 0 => .inl (g.2 0, 8, .inl zf)
  | 1 => .inl (g.2 0, 8, .inl zf)
  | 2 => .inl (g.2 0, 8, .inl zf)
  | 3 => .inr (6, [.int 0, .ref (ad 84), .ref (ad 85), .ref (ad 86), .ref (ad 87)])
  | 4 => .inl (g.2 0, 6, .inl zf)
  | 5 => .inl (g.2 0, 6, .inl zf)
  | 6 => .inl (g.2 0, 6, .inl zf)
  | 7 => .inl (g.2 0, 6, .inl zf)
  | 8 => .inl (g.2 0, 3, .inl zf)
  | 9 => .inr (0, [.int 0, .ref (ad 90), .ref (ad 91), .ref (ad 92)])
  | _ => .inr (0, [])
def X0_9 (g : GG) (ad : Nat → Nat) : SS := fun i => match i with
  | 0 => .inl (g.2 0, 40, .inl zf)
  | 1 => .inl (g.2 0, 40, .inl zf)
  | 2 => .inl (g.2 0, 40, .inl zf)
  | 3 => .inl (g.2 3, 3, .inl zf)
  | 4 => .inr (5, [.ref (ad 1), .ref (ad 20), .int 0, .int 0, .int 0, .int 0, .int 0, .int 0, .int 0])
  | 5 => .inr (2, [.ref (ad 2), .ref (ad 96), .ref (ad 97), .ref (ad 98), .ref (ad 99), .ref (ad 100), .ref (ad 101), .int 0, .int 0])
  | 6 => .inl (g.2 0, 8, .inl zf)
  | 7 => .inl (g.2 0, 8, .inl zf)
  | 8 => .inl (g.2 1, 401, .inl zf)
  | 9 => .inl (g.2 0, 401, .inl zf)
  | _ => .inr (0, [])
def X0_10 (g : GG) (ad : Nat → Nat) : SS := fun i => match i with
  | 0 => .inl (g.2 0, 401, .inl zf)
  | 1 => .inl (g.2 0, 12, .inl zf)
  | 2 => .inr (4, [.ref (ad 2), .ref (ad 103), .int 0, .int 0])
  | 3 => .inl (g.2 0, 1212, .inl zf)
  | 4 => .inr (9, [.ref (ad 2), .ref (ad 105), .ref (ad 106)])
  | 5 => .inl (g.2 0, 12, .inl zf)
  | 6 => .inl (g.2 0, 12, .inl zf)
  | 7 => .inr (7, [.ref (ad 2), .ref (ad 95), .ref (ad 108), .ref (ad 109), .ref (ad 110)])
  | 8 => .inl (g.2 0, 48, .inl zf)
  | 9 => .inl (g.2 0, 12, .inl zf)
  | _ => .inr (0, [])
def X0_11 (g : GG) (ad : Nat → Nat) : SS := fun i => match i with
  | 0 => .inl (g.2 0, 3, .inl zf)
  | 1 => .inr (8, [.ref (ad 112), .ref (ad 117), .ref (ad 118)])
  | 2 => .inl (g.2 5, 4, .inr (.inr (.inr (.inr (nuF ad)))))
  | 3 => .inl (g.2 2, 60, .inr (.inl zfL))
  | 4 => .inl (g.2 2, 60, .inr (.inl zfL))
  | 5 => .inl (g.2 2, 60, .inr (.inl zfL))
  | 6 => .inl (g.2 2, 60, .inr (.inl zfL))
  | 7 => .inl (g.2 0, 4, .inl zf)
  | 8 => .inl (g.2 0, 4, .inl szF)
  | 9 => .inr (3, [.ref (ad 2), .ref (ad 111), .ref (ad 120), .int 0, .ref (ad 121)])
  | _ => .inr (0, [])
def X0_12 (g : GG) (ad : Nat → Nat) : SS := fun i => match i with
  | 0 => .inl (g.2 0, 49, .inl zf)
  | 1 => .inl (g.2 0, 12, .inl zf)
  | _ => .inr (0, [])
def X0 (g : GG) (ad : Nat → Nat) : SS := fun i => match i / 10 with
  | 0 => X0_0 g ad (i % 10)
  | 1 => X0_1 g ad (i % 10)
  | 2 => X0_2 g ad (i % 10)
  | 3 => X0_3 g ad (i % 10)
  | 4 => X0_4 g ad (i % 10)
  | 5 => X0_5 g ad (i % 10)
  | 6 => X0_6 g ad (i % 10)
  | 7 => X0_7 g ad (i % 10)
  | 8 => X0_8 g ad (i % 10)
  | 9 => X0_9 g ad (i % 10)
  | 10 => X0_10 g ad (i % 10)
  | 11 => X0_11 g ad (i % 10)
  | 12 => X0_12 g ad (i % 10)
  | _ => .inr (0, [])
def M0_0 (g : GG) (ad : Nat → Nat) : SS := fun i => match i with
  | 0 => .inr (12, [.int 0, .ref (ad 1), .ref (ad 2), .ref (ad 3), .ref (ad 4), .ref (ad 5), .int 0, .int 0, .int 0, .int 0, .int 0, .long 0, .int 0, .int 0, .int 0, .int (-1), .ref (ad 6), .ref (ad 7), .ref (ad 8), .ref (ad 9), .ref (ad 10), .ref (ad 11), .ref (ad 12), .ref (ad 13), .ref (ad 14), .ref (ad 15), .int 0, .int 0, .ref (ad 16), .int 0, .int 0, .int 0, .int 0, .int 0, .ref (ad 17), .ref (ad 18), .int 0, .ref (ad 19)])
  | 1 => .inl (g.2 0, 4, .inl wdF)
  | 2 => .inl (g.2 0, 4, .inl zf)
  | 3 => .inl (g.2 2, 240, .inr (.inl zfL))
  | 4 => .inl (g.2 2, 60, .inr (.inl zfL))
  | 5 => .inl (g.2 1, 1200, .inl zf)
  | 6 => .inl (g.2 0, 5, .inl zf)
  | 7 => .inl (g.2 0, 50, .inl zf)
  | 8 => .inl (g.2 0, 120, .inl zf)
  | 9 => .inl (g.2 0, 120, .inl zf)
  | _ => .inr (0, [])
def M0_1 (g : GG) (ad : Nat → Nat) : SS := fun i => match i with
  | 0 => .inl (g.2 0, 120, .inl zf)
  | 1 => .inl (g.2 0, 15, .inl zf)
  | 2 => .inl (g.2 0, 800, .inl zf)
  | 3 => .inl (g.2 3, 3, .inl zf)
  | 4 => .inl (g.2 0, 3, .inl zf)
  | 5 => .inl (g.2 0, 3208, .inl zf)
  | 6 => .inl (g.2 0, 1212, .inl zf)
  | 7 => .inl (g.2 0, 12, .inl zf)
  | 8 => .inl (g.2 0, 3, .inl zf)
  | 9 => .inl (g.2 0, 12, .inl zf)
  | _ => .inr (0, [])
def M0 (g : GG) (ad : Nat → Nat) : SS := fun i => match i / 10 with
  | 0 => M0_0 g ad (i % 10)
  | 1 => M0_1 g ad (i % 10)
  | _ => .inr (0, [])
theorem vp_in_lit (i : Int32) (n : Nat) (h : ¬ (i < 0 ∨ n ≤ i.toNatClampNeg)) : vp_in i n := h
theorem nlt_le {a b : Int32} (h : ¬ a < b) : b ≤ a := Int32.not_lt.mp h
theorem nle_lt {a b : Int32} (h : ¬ a ≤ b) : b < a := Int32.not_le.mp h
theorem sb_atl {P : Int64 → Prop} {x y : Int64} (e : x = y) (h : P y) : P x := by rw [e]; exact h
theorem same_up {N : Nat} {S S1 F : SS} {k : Nat} {v : va_E} (hX : ∀ i, i < N → S i = F i) (e : S1 = va_up S k v) (hv : v = F k) : ∀ i, i < N → S1 i = F i := fun i hi => by
  by_cases h : i = k
  · subst h; rw [e, va_up_self, hv]
  · rw [e, va_up_ne _ _ h, hX i hi]
