abbrev RELc (e : va_E) : Prop := fld e 0 ≤ 1201 * fld e 1 ∧ fld e 7 ≤ 8 * fld e 1 ∧ fld e 12 ≤ 3 * fld e 1
abbrev ARb (S : SS) (b : Nat) : Prop := ARp (S (b + 14)) (S (b + 15)) (S (b + 16)) (S (b + 17))
def GX (g : GG) (ad : Nat → Nat) (S : SS) : Prop := InvX g ad S ∧ RELc (S 2) ∧ RELc (S 39) ∧ RELc (S 57) ∧ RELc (S 75) ∧ ARp (S 16) (S 17) (S 18) (S 19) ∧ ARp (S 53) (S 54) (S 55) (S 56) ∧ ARp (S 71) (S 72) (S 73) (S 74) ∧ ARp (S 89) (S 90) (S 91) (S 92)
abbrev TPc0 (l h : va_E) : Prop := elm h 0 ≤ 12 * elm h 1 ∧ elm h 0 ≤ 12 * elm h 3 ∧ elm h 6 ≤ 8 * elm h 0 ∧ elm h 8 ≤ 3 * elm h 0 ∧ elm l 0 ≤ 40000 * elm h 0
abbrev TPc1 (l h : va_E) : Prop := elm h 10 ≤ 12 * elm h 11 ∧ elm h 10 ≤ 12 * elm h 13 ∧ elm h 16 ≤ 8 * elm h 10 ∧ elm h 18 ≤ 3 * elm h 10 ∧ elm l 1 ≤ 40000 * elm h 10
abbrev TPc2 (l h : va_E) : Prop := elm h 20 ≤ 12 * elm h 21 ∧ elm h 20 ≤ 12 * elm h 23 ∧ elm h 26 ≤ 8 * elm h 20 ∧ elm h 28 ≤ 3 * elm h 20 ∧ elm l 2 ≤ 40000 * elm h 20
abbrev TPc3 (l h : va_E) : Prop := elm h 30 ≤ 12 * elm h 31 ∧ elm h 30 ≤ 12 * elm h 33 ∧ elm h 36 ≤ 8 * elm h 30 ∧ elm h 38 ≤ 3 * elm h 30 ∧ elm l 3 ≤ 40000 * elm h 30
def GM (g : GG) (ad : Nat → Nat) (S : SS) : Prop := InvM g ad S ∧ TPc0 (S 6) (S 7) ∧ TPc1 (S 6) (S 7) ∧ TPc2 (S 6) (S 7) ∧ TPc3 (S 6) (S 7) ∧ ATp (S 7) (S 12) 0 ∧ ATp (S 7) (S 12) 1 ∧ ATp (S 7) (S 12) 2 ∧ ATp (S 7) (S 12) 3 ∧ HTp (S 7) (S 9) 0 ∧ HTp (S 7) (S 9) 1 ∧ HTp (S 7) (S 9) 2 ∧ HTp (S 7) (S 9) 3
def KPr (S1 S2 : SS) : Prop := ∀ j : Nat, j < 3 → elm (S1 93) j = elm (S2 13) j
def SLr (S1 S2 : SS) : Prop := ∀ j : Nat, j < 4 → (elm (S1 118) j = -1 ∧ elm (S2 1) j = -1) ∨ (0 ≤ elm (S1 118) j ∧ elm (S1 118) j = elm (S2 2) j ∧ elm (S1 117) j = elm (S2 1) j ∧ 0 ≤ elm (S2 1) j)
def RR (S1 S2 : SS) : Prop := KPr S1 S2 ∧ SLr S1 S2
theorem rr_eq {S1 S2 S3 S4 : SS} (h : RR S1 S2) (e1 : S3 93 = S1 93) (e2 : S3 117 = S1 117) (e3 : S3 118 = S1 118) (e4 : S4 13 = S2 13) (e5 : S4 1 = S2 1) (e6 : S4 2 = S2 2) : RR S3 S4 :=
  ⟨fun j hj => by rw [e1, e4]; exact h.1 j hj, fun j hj => by rw [e2, e3, e5, e6]; exact h.2 j hj⟩
theorem rr_img {S1 S2 S3 S4 : SS} {k : Int} (h : RR S1 S2) (p1 : PUp (S3 93) (S1 93) k 1 3) (p2 : PUp (S4 13) (S2 13) k 1 3) (e2 : S3 117 = S1 117) (e3 : S3 118 = S1 118) (e5 : S4 1 = S2 1) (e6 : S4 2 = S2 2) : RR S3 S4 :=
  ⟨fun j hj => by rw [p1 j hj, p2 j hj, h.1 j hj], fun j hj => by rw [e2, e3, e5, e6]; exact h.2 j hj⟩
theorem rr_row {S1 S2 S3 S4 : SS} {r r' a w n : Int32} (h : RR S1 S2) (hr : r = ansRow a w n) (hr' : r' = ansRow a w n) (p1 : PUp (S3 117) (S1 117) (if r.toInt = 0 then a.toInt else -1) w.toInt 4) (p2 : PUp (S3 118) (S1 118) (if r.toInt = 0 then a.toInt else -1) n.toInt 4) (q1 : PUp (S4 1) (S2 1) (if r'.toInt = 0 then a.toInt else -1) w.toInt 4) (q2 : PUp (S4 2) (S2 2) (if r'.toInt = 0 then a.toInt else -1) n.toInt 4) (e1 : S3 93 = S1 93) (e4 : S4 13 = S2 13) : RR S3 S4 := by
  have hrr : r' = r := hr'.trans hr.symm
  subst hrr
  refine ⟨fun j hj => by rw [e1, e4]; exact h.1 j hj, fun j hj => ?_⟩
  rw [p1 j hj, p2 j hj, q1 j hj, q2 j hj]
  by_cases hz : r'.toInt = 0
  · rw [if_pos hz]
    by_cases hja : (j : Int) = a.toInt
    · rw [if_pos hja, if_pos hja, if_pos hja, if_pos hja]
      have hb : 0 ≤ n.toInt ∧ 0 ≤ w.toInt := by
        unfold ansRow at hr
        split at hr
        · rw [hr] at hz; exact absurd hz (by decide)
        · split at hr
          · rw [hr] at hz; exact absurd hz (by decide)
          · omega
      exact Or.inr ⟨hb.1, rfl, rfl, hb.2⟩
    · rw [if_neg hja, if_neg hja, if_neg hja, if_neg hja]; exact h.2 j hj
  · rw [if_neg hz, if_neg (by omega), if_neg (by omega), if_neg (by omega), if_neg (by omega)]; exact h.2 j hj
theorem bk_eq {S1 S2 : SS} {a r r' : Int32} (h : RR S1 S2) (hr : r = ansBk a (elm (S1 93) a.toInt.toNat)) (hr' : r' = ansBk a (elm (S2 13) a.toInt.toNat)) : r = r' := by
  rw [hr, hr']
  unfold ansBk
  by_cases q : a.toInt < 0 ∨ 2 < a.toInt
  · rw [if_pos q, if_pos q]
  · rw [if_neg q, if_neg q, h.1 a.toInt.toNat (by omega)]
theorem wr_eq {S1 S2 : SS} {a i r r' : Int32} (h : RR S1 S2) (hr : r = ansWr a i (elm (S1 118) a.toInt.toNat)) (hr' : r' = ansWrM a i (elm (S2 1) a.toInt.toNat) (elm (S2 2) a.toInt.toNat)) : r = r' := by
  rw [hr, hr']
  unfold ansWr ansWrM
  by_cases q : a.toInt < 0 ∨ 3 < a.toInt
  · rw [if_pos q, if_pos q]
  · rw [if_neg q, if_neg q]
    rcases h.2 a.toInt.toNat (by omega) with ⟨h1, h2⟩ | ⟨h1, h2, h3, h4⟩
    · rw [if_pos h1, if_pos h2]
    · rw [if_neg (show ¬ elm (S1 118) a.toInt.toNat = -1 by omega), if_neg (show ¬ elm (S2 1) a.toInt.toNat = -1 by omega), h2]
theorem pa_eq {S1 S2 : SS} {a i t k n r r' : Int32} (h : RR S1 S2) (hr : r = ansPa a i t k n (elm (S1 118) a.toInt.toNat) (elm (S1 118) t.toInt.toNat) (elm (S1 117) a.toInt.toNat) (elm (S1 117) t.toInt.toNat)) (hr' : r' = ansPaM a i t k n (elm (S2 2) a.toInt.toNat) (elm (S2 2) t.toInt.toNat) (elm (S2 1) a.toInt.toNat) (elm (S2 1) t.toInt.toNat)) : r = r' := by
  rw [hr, hr']
  unfold ansPa ansPaM
  by_cases q : a.toInt < 0 ∨ 3 < a.toInt ∨ t.toInt < 0 ∨ 3 < t.toInt
  · rw [if_pos q, if_pos q]
  · rw [if_neg q, if_neg q]
    rcases h.2 a.toInt.toNat (by omega) with ⟨h1, h2⟩ | ⟨h1, h2, h3, h4⟩
    · rw [if_pos (Or.inl h1), if_pos (Or.inl h2)]
    · rcases h.2 t.toInt.toNat (by omega) with ⟨g1, g2⟩ | ⟨g1, g2, g3, g4⟩
      · rw [if_pos (Or.inr g1), if_pos (Or.inr g2)]
      · rw [if_neg (show ¬ (elm (S1 118) a.toInt.toNat = -1 ∨ elm (S1 118) t.toInt.toNat = -1) by omega), if_neg (show ¬ (elm (S2 1) a.toInt.toNat = -1 ∨ elm (S2 1) t.toInt.toNat = -1) by omega), h2, g2, h3, g3]
theorem gm9 {g : GG} {ad : Nat → Nat} {S : SS} (h : InvM g ad S) : elm (S 7) 9 ≤ 40 ∧ elm (S 7) 19 ≤ 40 ∧ elm (S 7) 29 ≤ 40 ∧ elm (S 7) 39 ≤ 40 := by
  obtain ⟨f, c, b⟩ := invM_7 h
  have h9 := b.2.2.2.2.2.2.2
  rw [elm_of c, elm_of c, elm_of c, elm_of c]
  exact ⟨(h9 9 (by decide)).2, (h9 19 (by decide)).2, (h9 29 (by decide)).2, (h9 39 (by decide)).2⟩
theorem invX0_0 (g : GG) (ad : Nat → Nat) : ∀ i, i < 10 → OKX g ad (0 + i) (X0 g ad (0 + i)) := fun i hi => match i, hi with
  | 0, _ => (show OKX_0 g ad (X0 g ad 0) from ⟨(0 : Int32), (0 : Int32), (-1), rfl, (by decide)⟩)
  | 1, _ => (show OKX_1 g ad (X0 g ad 1) from ⟨_, rfl, fun _ => (by decide : Bd (0 : Int32) (-128) (127))⟩)
  | 2, _ => (show OKX_2 g ad (X0 g ad 2) from ⟨(0 : Int32), (0 : Int32), (0 : Int32), (0 : Int32), (0 : Int32), (0 : Int32), rfl, (by decide), (by decide), (by decide), (by decide)⟩)
  | 3, _ => (show OKX_3 g ad (X0 g ad 3) from ⟨(0 : Int32), (0 : Int32), (0 : Int32), (0 : Int32), rfl, (by decide), (by decide), (by decide), (by decide)⟩)
  | 4, _ => (show OKX_4 g ad (X0 g ad 4) from ⟨_, rfl⟩)
  | 5, _ => (show OKX_5 g ad (X0 g ad 5) from ⟨_, rfl⟩)
  | 6, _ => (show OKX_6 g ad (X0 g ad 6) from ⟨_, rfl⟩)
  | 7, _ => (show OKX_7 g ad (X0 g ad 7) from ⟨_, rfl⟩)
  | 8, _ => (show OKX_8 g ad (X0 g ad 8) from ⟨_, rfl, fun _ => (by decide : Bd (0 : Int32) (0) (11))⟩)
  | 9, _ => (show OKX_9 g ad (X0 g ad 9) from ⟨_, rfl, fun _ => (by decide : Bd (0 : Int32) (0) (99))⟩)
  | i + 10, h => absurd h (by omega)
theorem invX0_1 (g : GG) (ad : Nat → Nat) : ∀ i, i < 10 → OKX g ad (10 + i) (X0 g ad (10 + i)) := fun i hi => match i, hi with
  | 0, _ => (show OKX_10 g ad (X0 g ad 10) from ⟨(0 : Int32), rfl, (by decide)⟩)
  | 1, _ => (show OKX_11 g ad (X0 g ad 11) from ⟨_, rfl⟩)
  | 2, _ => (show OKX_12 g ad (X0 g ad 12) from ⟨_, rfl⟩)
  | 3, _ => (show OKX_13 g ad (X0 g ad 13) from ⟨_, rfl⟩)
  | 4, _ => (show OKX_14 g ad (X0 g ad 14) from ⟨_, rfl⟩)
  | 5, _ => (show OKX_15 g ad (X0 g ad 15) from ⟨_, rfl, fun _ => (by decide : Bd (0 : Int32) (0) (11))⟩)
  | 6, _ => (show OKX_16 g ad (X0 g ad 16) from ⟨(0 : Int32), rfl, (by decide)⟩)
  | 7, _ => (show OKX_17 g ad (X0 g ad 17) from ⟨_, rfl⟩)
  | 8, _ => (show OKX_18 g ad (X0 g ad 18) from ⟨_, rfl, fun _ => (by decide : Bd (0 : Int32) (0) (7))⟩)
  | 9, _ => (show OKX_19 g ad (X0 g ad 19) from ⟨_, rfl, fun _ => (by decide : Bd (0 : Int32) (0) (400))⟩)
  | i + 10, h => absurd h (by omega)
theorem invX0_2 (g : GG) (ad : Nat → Nat) : ∀ i, i < 10 → OKX g ad (20 + i) (X0 g ad (20 + i)) := fun i hi => match i, hi with
  | 0, _ => (show OKX_20 g ad (X0 g ad 20) from ⟨(0 : Int32), (0 : Int32), (0 : Int32), (0 : Int32), (0 : Int32), (0 : Int32), rfl, (by decide), (by decide), (by decide), (by decide)⟩)
  | 1, _ => (show OKX_21 g ad (X0 g ad 21) from ⟨(0 : Int32), (0 : Int32), (0 : Int32), (0 : Int32), rfl, (by decide), (by decide), (by decide), (by decide)⟩)
  | 2, _ => (show OKX_22 g ad (X0 g ad 22) from ⟨_, rfl⟩)
  | 3, _ => (show OKX_23 g ad (X0 g ad 23) from ⟨_, rfl⟩)
  | 4, _ => (show OKX_24 g ad (X0 g ad 24) from ⟨_, rfl⟩)
  | 5, _ => (show OKX_25 g ad (X0 g ad 25) from ⟨_, rfl⟩)
  | 6, _ => (show OKX_26 g ad (X0 g ad 26) from ⟨_, rfl, fun _ => (by decide : Bd (0 : Int32) (0) (11))⟩)
  | 7, _ => (show OKX_27 g ad (X0 g ad 27) from ⟨_, rfl, fun _ => (by decide : Bd (0 : Int32) (0) (99))⟩)
  | 8, _ => (show OKX_28 g ad (X0 g ad 28) from ⟨(0 : Int32), rfl, (by decide)⟩)
  | 9, _ => (show OKX_29 g ad (X0 g ad 29) from ⟨_, rfl⟩)
  | i + 10, h => absurd h (by omega)
theorem invX0_3 (g : GG) (ad : Nat → Nat) : ∀ i, i < 10 → OKX g ad (30 + i) (X0 g ad (30 + i)) := fun i hi => match i, hi with
  | 0, _ => (show OKX_30 g ad (X0 g ad 30) from ⟨_, rfl⟩)
  | 1, _ => (show OKX_31 g ad (X0 g ad 31) from ⟨_, rfl⟩)
  | 2, _ => (show OKX_32 g ad (X0 g ad 32) from ⟨_, rfl⟩)
  | 3, _ => (show OKX_33 g ad (X0 g ad 33) from ⟨_, rfl, fun _ => (by decide : Bd (0 : Int32) (0) (11))⟩)
  | 4, _ => (show OKX_34 g ad (X0 g ad 34) from ⟨(0 : Int32), rfl, (by decide)⟩)
  | 5, _ => (show OKX_35 g ad (X0 g ad 35) from ⟨_, rfl⟩)
  | 6, _ => (show OKX_36 g ad (X0 g ad 36) from ⟨_, rfl, fun _ => (by decide : Bd (0 : Int32) (0) (7))⟩)
  | 7, _ => (show OKX_37 g ad (X0 g ad 37) from ⟨_, rfl, fun _ => (by decide : Bd (0 : Int32) (0) (400))⟩)
  | 8, _ => (show OKX_38 g ad (X0 g ad 38) from rfl)
  | 9, _ => (show OKX_39 g ad (X0 g ad 39) from ⟨(0 : Int32), (0 : Int32), (0 : Int32), (0 : Int32), (0 : Int32), (0 : Int32), rfl, (by decide), (by decide), (by decide), (by decide)⟩)
  | i + 10, h => absurd h (by omega)
theorem invX0_4 (g : GG) (ad : Nat → Nat) : ∀ i, i < 10 → OKX g ad (40 + i) (X0 g ad (40 + i)) := fun i hi => match i, hi with
  | 0, _ => (show OKX_40 g ad (X0 g ad 40) from ⟨(0 : Int32), (0 : Int32), (0 : Int32), (0 : Int32), rfl, (by decide), (by decide), (by decide), (by decide)⟩)
  | 1, _ => (show OKX_41 g ad (X0 g ad 41) from ⟨_, rfl⟩)
  | 2, _ => (show OKX_42 g ad (X0 g ad 42) from ⟨_, rfl⟩)
  | 3, _ => (show OKX_43 g ad (X0 g ad 43) from ⟨_, rfl⟩)
  | 4, _ => (show OKX_44 g ad (X0 g ad 44) from ⟨_, rfl⟩)
  | 5, _ => (show OKX_45 g ad (X0 g ad 45) from ⟨_, rfl, fun _ => (by decide : Bd (0 : Int32) (0) (11))⟩)
  | 6, _ => (show OKX_46 g ad (X0 g ad 46) from ⟨_, rfl, fun _ => (by decide : Bd (0 : Int32) (0) (99))⟩)
  | 7, _ => (show OKX_47 g ad (X0 g ad 47) from ⟨(0 : Int32), rfl, (by decide)⟩)
  | 8, _ => (show OKX_48 g ad (X0 g ad 48) from ⟨_, rfl⟩)
  | 9, _ => (show OKX_49 g ad (X0 g ad 49) from ⟨_, rfl⟩)
  | i + 10, h => absurd h (by omega)
theorem invX0_5 (g : GG) (ad : Nat → Nat) : ∀ i, i < 10 → OKX g ad (50 + i) (X0 g ad (50 + i)) := fun i hi => match i, hi with
  | 0, _ => (show OKX_50 g ad (X0 g ad 50) from ⟨_, rfl⟩)
  | 1, _ => (show OKX_51 g ad (X0 g ad 51) from ⟨_, rfl⟩)
  | 2, _ => (show OKX_52 g ad (X0 g ad 52) from ⟨_, rfl, fun _ => (by decide : Bd (0 : Int32) (0) (11))⟩)
  | 3, _ => (show OKX_53 g ad (X0 g ad 53) from ⟨(0 : Int32), rfl, (by decide)⟩)
  | 4, _ => (show OKX_54 g ad (X0 g ad 54) from ⟨_, rfl⟩)
  | 5, _ => (show OKX_55 g ad (X0 g ad 55) from ⟨_, rfl, fun _ => (by decide : Bd (0 : Int32) (0) (7))⟩)
  | 6, _ => (show OKX_56 g ad (X0 g ad 56) from ⟨_, rfl, fun _ => (by decide : Bd (0 : Int32) (0) (400))⟩)
  | 7, _ => (show OKX_57 g ad (X0 g ad 57) from ⟨(0 : Int32), (0 : Int32), (0 : Int32), (0 : Int32), (0 : Int32), (0 : Int32), rfl, (by decide), (by decide), (by decide), (by decide)⟩)
  | 8, _ => (show OKX_58 g ad (X0 g ad 58) from ⟨(0 : Int32), (0 : Int32), (0 : Int32), (0 : Int32), rfl, (by decide), (by decide), (by decide), (by decide)⟩)
  | 9, _ => (show OKX_59 g ad (X0 g ad 59) from ⟨_, rfl⟩)
  | i + 10, h => absurd h (by omega)
theorem invX0_6 (g : GG) (ad : Nat → Nat) : ∀ i, i < 10 → OKX g ad (60 + i) (X0 g ad (60 + i)) := fun i hi => match i, hi with
  | 0, _ => (show OKX_60 g ad (X0 g ad 60) from ⟨_, rfl⟩)
  | 1, _ => (show OKX_61 g ad (X0 g ad 61) from ⟨_, rfl⟩)
  | 2, _ => (show OKX_62 g ad (X0 g ad 62) from ⟨_, rfl⟩)
  | 3, _ => (show OKX_63 g ad (X0 g ad 63) from ⟨_, rfl, fun _ => (by decide : Bd (0 : Int32) (0) (11))⟩)
  | 4, _ => (show OKX_64 g ad (X0 g ad 64) from ⟨_, rfl, fun _ => (by decide : Bd (0 : Int32) (0) (99))⟩)
  | 5, _ => (show OKX_65 g ad (X0 g ad 65) from ⟨(0 : Int32), rfl, (by decide)⟩)
  | 6, _ => (show OKX_66 g ad (X0 g ad 66) from ⟨_, rfl⟩)
  | 7, _ => (show OKX_67 g ad (X0 g ad 67) from ⟨_, rfl⟩)
  | 8, _ => (show OKX_68 g ad (X0 g ad 68) from ⟨_, rfl⟩)
  | 9, _ => (show OKX_69 g ad (X0 g ad 69) from ⟨_, rfl⟩)
  | i + 10, h => absurd h (by omega)
theorem invX0_7 (g : GG) (ad : Nat → Nat) : ∀ i, i < 10 → OKX g ad (70 + i) (X0 g ad (70 + i)) := fun i hi => match i, hi with
  | 0, _ => (show OKX_70 g ad (X0 g ad 70) from ⟨_, rfl, fun _ => (by decide : Bd (0 : Int32) (0) (11))⟩)
  | 1, _ => (show OKX_71 g ad (X0 g ad 71) from ⟨(0 : Int32), rfl, (by decide)⟩)
  | 2, _ => (show OKX_72 g ad (X0 g ad 72) from ⟨_, rfl⟩)
  | 3, _ => (show OKX_73 g ad (X0 g ad 73) from ⟨_, rfl, fun _ => (by decide : Bd (0 : Int32) (0) (7))⟩)
  | 4, _ => (show OKX_74 g ad (X0 g ad 74) from ⟨_, rfl, fun _ => (by decide : Bd (0 : Int32) (0) (400))⟩)
  | 5, _ => (show OKX_75 g ad (X0 g ad 75) from ⟨(0 : Int32), (0 : Int32), (0 : Int32), (0 : Int32), (0 : Int32), (0 : Int32), rfl, (by decide), (by decide), (by decide), (by decide)⟩)
  | 6, _ => (show OKX_76 g ad (X0 g ad 76) from ⟨(0 : Int32), (0 : Int32), (0 : Int32), (0 : Int32), rfl, (by decide), (by decide), (by decide), (by decide)⟩)
  | 7, _ => (show OKX_77 g ad (X0 g ad 77) from ⟨_, rfl⟩)
  | 8, _ => (show OKX_78 g ad (X0 g ad 78) from ⟨_, rfl⟩)
  | 9, _ => (show OKX_79 g ad (X0 g ad 79) from ⟨_, rfl⟩)
  | i + 10, h => absurd h (by omega)
theorem invX0_8 (g : GG) (ad : Nat → Nat) : ∀ i, i < 10 → OKX g ad (80 + i) (X0 g ad (80 + i)) := fun i hi => match i, hi with
  | 0, _ => (show OKX_80 g ad (X0 g ad 80) from ⟨_, rfl⟩)
  | 1, _ => (show OKX_81 g ad (X0 g ad 81) from ⟨_, rfl, fun _ => (by decide : Bd (0 : Int32) (0) (11))⟩)
  | 2, _ => (show OKX_82 g ad (X0 g ad 82) from ⟨_, rfl, fun _ => (by decide : Bd (0 : Int32) (0) (99))⟩)
  | 3, _ => (show OKX_83 g ad (X0 g ad 83) from ⟨(0 : Int32), rfl, (by decide)⟩)
  | 4, _ => (show OKX_84 g ad (X0 g ad 84) from ⟨_, rfl⟩)
  | 5, _ => (show OKX_85 g ad (X0 g ad 85) from ⟨_, rfl⟩)
  | 6, _ => (show OKX_86 g ad (X0 g ad 86) from ⟨_, rfl⟩)
  | 7, _ => (show OKX_87 g ad (X0 g ad 87) from ⟨_, rfl⟩)
  | 8, _ => (show OKX_88 g ad (X0 g ad 88) from ⟨_, rfl, fun _ => (by decide : Bd (0 : Int32) (0) (11))⟩)
  | 9, _ => (show OKX_89 g ad (X0 g ad 89) from ⟨(0 : Int32), rfl, (by decide)⟩)
  | i + 10, h => absurd h (by omega)
theorem invX0_9 (g : GG) (ad : Nat → Nat) : ∀ i, i < 10 → OKX g ad (90 + i) (X0 g ad (90 + i)) := fun i hi => match i, hi with
  | 0, _ => (show OKX_90 g ad (X0 g ad 90) from ⟨_, rfl⟩)
  | 1, _ => (show OKX_91 g ad (X0 g ad 91) from ⟨_, rfl, fun _ => (by decide : Bd (0 : Int32) (0) (7))⟩)
  | 2, _ => (show OKX_92 g ad (X0 g ad 92) from ⟨_, rfl, fun _ => (by decide : Bd (0 : Int32) (0) (400))⟩)
  | 3, _ => (show OKX_93 g ad (X0 g ad 93) from ⟨_, rfl, fun _ => (by decide : Bd (0 : Int32) (0) (1))⟩)
  | 4, _ => (show OKX_94 g ad (X0 g ad 94) from ⟨(0 : Int32), (0 : Int32), (0 : Int32), (0 : Int32), (0 : Int32), (0 : Int32), (0 : Int32), rfl, (by decide), (by decide), (by decide), (by decide)⟩)
  | 5, _ => (show OKX_95 g ad (X0 g ad 95) from ⟨(0 : Int32), (0 : Int32), rfl, (by decide)⟩)
  | 6, _ => (show OKX_96 g ad (X0 g ad 96) from ⟨_, rfl⟩)
  | 7, _ => (show OKX_97 g ad (X0 g ad 97) from ⟨_, rfl⟩)
  | 8, _ => (show OKX_98 g ad (X0 g ad 98) from ⟨_, rfl, fun _ => (by decide : Bd (0 : Int32) (-128) (127))⟩)
  | 9, _ => (show OKX_99 g ad (X0 g ad 99) from ⟨_, rfl⟩)
  | i + 10, h => absurd h (by omega)
theorem invX0_10 (g : GG) (ad : Nat → Nat) : ∀ i, i < 10 → OKX g ad (100 + i) (X0 g ad (100 + i)) := fun i hi => match i, hi with
  | 0, _ => (show OKX_100 g ad (X0 g ad 100) from ⟨_, rfl⟩)
  | 1, _ => (show OKX_101 g ad (X0 g ad 101) from ⟨_, rfl⟩)
  | 2, _ => (show OKX_102 g ad (X0 g ad 102) from ⟨(0 : Int32), (0 : Int32), rfl, (by decide)⟩)
  | 3, _ => (show OKX_103 g ad (X0 g ad 103) from ⟨_, rfl⟩)
  | 4, _ => (show OKX_104 g ad (X0 g ad 104) from rfl)
  | 5, _ => (show OKX_105 g ad (X0 g ad 105) from ⟨_, rfl⟩)
  | 6, _ => (show OKX_106 g ad (X0 g ad 106) from ⟨_, rfl⟩)
  | 7, _ => (show OKX_107 g ad (X0 g ad 107) from rfl)
  | 8, _ => (show OKX_108 g ad (X0 g ad 108) from ⟨_, rfl⟩)
  | 9, _ => (show OKX_109 g ad (X0 g ad 109) from ⟨_, rfl⟩)
  | i + 10, h => absurd h (by omega)
theorem invX0_11 (g : GG) (ad : Nat → Nat) : ∀ i, i < 10 → OKX g ad (110 + i) (X0 g ad (110 + i)) := fun i hi => match i, hi with
  | 0, _ => (show OKX_110 g ad (X0 g ad 110) from ⟨_, rfl, fun _ => (by decide : Bd (0 : Int32) (0) (11))⟩)
  | 1, _ => (show OKX_111 g ad (X0 g ad 111) from rfl)
  | 2, _ => (show OKX_112 g ad (X0 g ad 112) from rfl)
  | 3, _ => (show OKX_113 g ad (X0 g ad 113) from ⟨_, rfl⟩)
  | 4, _ => (show OKX_114 g ad (X0 g ad 114) from ⟨_, rfl⟩)
  | 5, _ => (show OKX_115 g ad (X0 g ad 115) from ⟨_, rfl⟩)
  | 6, _ => (show OKX_116 g ad (X0 g ad 116) from ⟨_, rfl⟩)
  | 7, _ => (show OKX_117 g ad (X0 g ad 117) from ⟨_, rfl, fun _ => (by decide : Bd (0 : Int32) (0) (3))⟩)
  | 8, _ => (show OKX_118 g ad (X0 g ad 118) from ⟨_, rfl, fun j => (show Bd (if j < 4 then (-1 : Int32) else 0) (-1) (60) by split <;> decide)⟩)
  | 9, _ => (show OKX_119 g ad (X0 g ad 119) from ⟨(0 : Int32), rfl, (by decide)⟩)
  | i + 10, h => absurd h (by omega)
theorem invX0_12 (g : GG) (ad : Nat → Nat) : ∀ i, i < 2 → OKX g ad (120 + i) (X0 g ad (120 + i)) := fun i hi => match i, hi with
  | 0, _ => (show OKX_120 g ad (X0 g ad 120) from ⟨_, rfl, fun _ => (by decide : Bd (0 : Int32) (0) (48))⟩)
  | 1, _ => (show OKX_121 g ad (X0 g ad 121) from ⟨_, rfl⟩)
  | i + 2, h => absurd h (by omega)
theorem invX0 (g : GG) (ad : Nat → Nat) : InvX g ad (X0 g ad) := fun i hi => by
  rcases (show i / 10 = 0 ∨ i / 10 = 1 ∨ i / 10 = 2 ∨ i / 10 = 3 ∨ i / 10 = 4 ∨ i / 10 = 5 ∨ i / 10 = 6 ∨ i / 10 = 7 ∨ i / 10 = 8 ∨ i / 10 = 9 ∨ i / 10 = 10 ∨ i / 10 = 11 ∨ i / 10 = 12 by omega) with h | h | h | h | h | h | h | h | h | h | h | h | h
  · have := invX0_0 g ad (i - 0) (by omega)
    rw [show 0 + (i - 0) = i by omega] at this
    exact this
  · have := invX0_1 g ad (i - 10) (by omega)
    rw [show 10 + (i - 10) = i by omega] at this
    exact this
  · have := invX0_2 g ad (i - 20) (by omega)
    rw [show 20 + (i - 20) = i by omega] at this
    exact this
  · have := invX0_3 g ad (i - 30) (by omega)
    rw [show 30 + (i - 30) = i by omega] at this
    exact this
  · have := invX0_4 g ad (i - 40) (by omega)
    rw [show 40 + (i - 40) = i by omega] at this
    exact this
  · have := invX0_5 g ad (i - 50) (by omega)
    rw [show 50 + (i - 50) = i by omega] at this
    exact this
  · have := invX0_6 g ad (i - 60) (by omega)
    rw [show 60 + (i - 60) = i by omega] at this
    exact this
  · have := invX0_7 g ad (i - 70) (by omega)
    rw [show 70 + (i - 70) = i by omega] at this
    exact this
  · have := invX0_8 g ad (i - 80) (by omega)
    rw [show 80 + (i - 80) = i by omega] at this
    exact this
  · have := invX0_9 g ad (i - 90) (by omega)
    rw [show 90 + (i - 90) = i by omega] at this
    exact this
  · have := invX0_10 g ad (i - 100) (by omega)
    rw [show 100 + (i - 100) = i by omega] at this
    exact this
  · have := invX0_11 g ad (i - 110) (by omega)
    rw [show 110 + (i - 110) = i by omega] at this
    exact this
  · have := invX0_12 g ad (i - 120) (by omega)
    rw [show 120 + (i - 120) = i by omega] at this
    exact this
theorem invM0_0 (g : GG) (ad : Nat → Nat) : ∀ i, i < 10 → OKM g ad (0 + i) (M0 g ad (0 + i)) := fun i hi => match i, hi with
  | 0, _ => (show OKM_0 g ad (M0 g ad 0) from ⟨(0 : Int32), (0 : Int32), (0 : Int32), (0 : Int32), (0 : Int32), (0 : Int32), 0, (0 : Int32), (0 : Int32), (0 : Int32), (-1), (0 : Int32), (0 : Int32), (0 : Int32), (0 : Int32), (0 : Int32), (0 : Int32), (0 : Int32), (0 : Int32), rfl, (by decide), (by decide), (by decide), (by decide), (by decide), (by decide), (by decide), (by decide), (by decide)⟩)
  | 1, _ => (show OKM_1 g ad (M0 g ad 1) from ⟨_, rfl, upd_b (upd_b (upd_b (upd_b (fun _ => (by decide : Bd (0 : Int32) (-1) 3)) (by decide)) (by decide)) (by decide)) (by decide)⟩)
  | 2, _ => (show OKM_2 g ad (M0 g ad 2) from ⟨_, rfl, fun _ => (by decide : Bd (0 : Int32) (0) (60))⟩)
  | 3, _ => (show OKM_3 g ad (M0 g ad 3) from ⟨_, rfl⟩)
  | 4, _ => (show OKM_4 g ad (M0 g ad 4) from ⟨_, rfl⟩)
  | 5, _ => (show OKM_5 g ad (M0 g ad 5) from ⟨_, rfl, fun _ => (by decide : Bd (0 : Int32) (-128) (127))⟩)
  | 6, _ => (show OKM_6 g ad (M0 g ad 6) from ⟨_, rfl, fun _ => (by decide : Bd (0 : Int32) (0) (40000))⟩)
  | 7, _ => (show OKM_7 g ad (M0 g ad 7) from ⟨_, rfl, fun _ _ => (by decide : Bd (0 : Int32) (0) (12)), fun _ _ => (by decide : Bd (0 : Int32) (0) (12)), fun _ _ => (by decide : Bd (0 : Int32) (0) (6)), fun _ _ => (by decide : Bd (0 : Int32) (0) (12)), fun _ _ => (by decide : Bd (0 : Int32) (0) (8)), fun _ _ => (by decide : Bd (0 : Int32) (0) (6)), fun _ _ => (by decide : Bd (0 : Int32) (0) (3)), fun _ _ => (by decide : Bd (0 : Int32) (0) (40))⟩)
  | 8, _ => (show OKM_8 g ad (M0 g ad 8) from ⟨_, rfl⟩)
  | 9, _ => (show OKM_9 g ad (M0 g ad 9) from ⟨_, rfl, fun _ _ => (by decide : Bd (0 : Int32) (0) (11)), fun _ _ => (by decide : Bd (0 : Int32) (0) (99))⟩)
  | i + 10, h => absurd h (by omega)
theorem invM0_1 (g : GG) (ad : Nat → Nat) : ∀ i, i < 10 → OKM g ad (10 + i) (M0 g ad (10 + i)) := fun i hi => match i, hi with
  | 0, _ => (show OKM_10 g ad (M0 g ad 10) from ⟨_, rfl⟩)
  | 1, _ => (show OKM_11 g ad (M0 g ad 11) from ⟨_, rfl, fun _ => (by decide : Bd (0 : Int32) (0) (11))⟩)
  | 2, _ => (show OKM_12 g ad (M0 g ad 12) from ⟨_, rfl, fun _ _ => (by decide : Bd (0 : Int32) (0) (7)), fun _ _ => (by decide : Bd (0 : Int32) (0) (400))⟩)
  | 3, _ => (show OKM_13 g ad (M0 g ad 13) from ⟨_, rfl, fun _ => (by decide : Bd (0 : Int32) (0) (1))⟩)
  | 4, _ => (show OKM_14 g ad (M0 g ad 14) from ⟨_, rfl, fun _ => (by decide : Bd (0 : Int32) (0) (11))⟩)
  | 5, _ => (show OKM_15 g ad (M0 g ad 15) from ⟨_, rfl⟩)
  | 6, _ => (show OKM_16 g ad (M0 g ad 16) from ⟨_, rfl, fun _ => (by decide : Bd (0 : Int32) (0) (100000))⟩)
  | 7, _ => (show OKM_17 g ad (M0 g ad 17) from ⟨_, rfl⟩)
  | 8, _ => (show OKM_18 g ad (M0 g ad 18) from ⟨_, rfl⟩)
  | 9, _ => (show OKM_19 g ad (M0 g ad 19) from ⟨_, rfl⟩)
  | i + 10, h => absurd h (by omega)
theorem invM0 (g : GG) (ad : Nat → Nat) : InvM g ad (M0 g ad) := fun i hi => by
  rcases (show i / 10 = 0 ∨ i / 10 = 1 by omega) with h | h
  · have := invM0_0 g ad (i - 0) (by omega)
    rw [show 0 + (i - 0) = i by omega] at this
    exact this
  · have := invM0_1 g ad (i - 10) (by omega)
    rw [show 10 + (i - 10) = i by omega] at this
    exact this
theorem gx0_2 (g : GG) (ad : Nat → Nat) : RELc (X0 g ad 2) := by
  have c : X0 g ad 2 = .inr (1, [.int 0, .int 0, .int 0, .ref (ad 3), .ref (ad 5), .ref (ad 6), .int 0, .int 0, .ref (ad 7), .ref (ad 8), .ref (ad 9), .ref (ad 10), .int 0, .ref (ad 15), .ref (ad 16)]) := rfl
  have q0 : fld (X0 g ad 2) 0 = 0 := (fld_of c (j := 0) rfl).trans (by decide)
  have q1 : fld (X0 g ad 2) 1 = 0 := (fld_of c (j := 1) rfl).trans (by decide)
  have q7 : fld (X0 g ad 2) 7 = 0 := (fld_of c (j := 7) rfl).trans (by decide)
  have q12 : fld (X0 g ad 2) 12 = 0 := (fld_of c (j := 12) rfl).trans (by decide)
  exact ⟨by omega, by omega, by omega⟩
theorem gx0a_2 (g : GG) (ad : Nat → Nat) : fld (X0 g ad 16) 0 ≤ 0 := by
  have c : X0 g ad 16 = .inr (0, [.int 0, .ref (ad 17), .ref (ad 18), .ref (ad 19)]) := rfl
  have q : fld (X0 g ad 16) 0 = 0 := (fld_of c (j := 0) rfl).trans (by decide)
  omega
theorem gx0_39 (g : GG) (ad : Nat → Nat) : RELc (X0 g ad 39) := by
  have c : X0 g ad 39 = .inr (1, [.int 0, .int 0, .int 0, .ref (ad 40), .ref (ad 42), .ref (ad 43), .int 0, .int 0, .ref (ad 44), .ref (ad 45), .ref (ad 46), .ref (ad 47), .int 0, .ref (ad 52), .ref (ad 53)]) := rfl
  have q0 : fld (X0 g ad 39) 0 = 0 := (fld_of c (j := 0) rfl).trans (by decide)
  have q1 : fld (X0 g ad 39) 1 = 0 := (fld_of c (j := 1) rfl).trans (by decide)
  have q7 : fld (X0 g ad 39) 7 = 0 := (fld_of c (j := 7) rfl).trans (by decide)
  have q12 : fld (X0 g ad 39) 12 = 0 := (fld_of c (j := 12) rfl).trans (by decide)
  exact ⟨by omega, by omega, by omega⟩
theorem gx0a_39 (g : GG) (ad : Nat → Nat) : fld (X0 g ad 53) 0 ≤ 0 := by
  have c : X0 g ad 53 = .inr (0, [.int 0, .ref (ad 54), .ref (ad 55), .ref (ad 56)]) := rfl
  have q : fld (X0 g ad 53) 0 = 0 := (fld_of c (j := 0) rfl).trans (by decide)
  omega
theorem gx0_57 (g : GG) (ad : Nat → Nat) : RELc (X0 g ad 57) := by
  have c : X0 g ad 57 = .inr (1, [.int 0, .int 0, .int 0, .ref (ad 58), .ref (ad 60), .ref (ad 61), .int 0, .int 0, .ref (ad 62), .ref (ad 63), .ref (ad 64), .ref (ad 65), .int 0, .ref (ad 70), .ref (ad 71)]) := rfl
  have q0 : fld (X0 g ad 57) 0 = 0 := (fld_of c (j := 0) rfl).trans (by decide)
  have q1 : fld (X0 g ad 57) 1 = 0 := (fld_of c (j := 1) rfl).trans (by decide)
  have q7 : fld (X0 g ad 57) 7 = 0 := (fld_of c (j := 7) rfl).trans (by decide)
  have q12 : fld (X0 g ad 57) 12 = 0 := (fld_of c (j := 12) rfl).trans (by decide)
  exact ⟨by omega, by omega, by omega⟩
theorem gx0a_57 (g : GG) (ad : Nat → Nat) : fld (X0 g ad 71) 0 ≤ 0 := by
  have c : X0 g ad 71 = .inr (0, [.int 0, .ref (ad 72), .ref (ad 73), .ref (ad 74)]) := rfl
  have q : fld (X0 g ad 71) 0 = 0 := (fld_of c (j := 0) rfl).trans (by decide)
  omega
theorem gx0_75 (g : GG) (ad : Nat → Nat) : RELc (X0 g ad 75) := by
  have c : X0 g ad 75 = .inr (1, [.int 0, .int 0, .int 0, .ref (ad 76), .ref (ad 78), .ref (ad 79), .int 0, .int 0, .ref (ad 80), .ref (ad 81), .ref (ad 82), .ref (ad 83), .int 0, .ref (ad 88), .ref (ad 89)]) := rfl
  have q0 : fld (X0 g ad 75) 0 = 0 := (fld_of c (j := 0) rfl).trans (by decide)
  have q1 : fld (X0 g ad 75) 1 = 0 := (fld_of c (j := 1) rfl).trans (by decide)
  have q7 : fld (X0 g ad 75) 7 = 0 := (fld_of c (j := 7) rfl).trans (by decide)
  have q12 : fld (X0 g ad 75) 12 = 0 := (fld_of c (j := 12) rfl).trans (by decide)
  exact ⟨by omega, by omega, by omega⟩
theorem gx0a_75 (g : GG) (ad : Nat → Nat) : fld (X0 g ad 89) 0 ≤ 0 := by
  have c : X0 g ad 89 = .inr (0, [.int 0, .ref (ad 90), .ref (ad 91), .ref (ad 92)]) := rfl
  have q : fld (X0 g ad 89) 0 = 0 := (fld_of c (j := 0) rfl).trans (by decide)
  omega
theorem gx0 (g : GG) (ad : Nat → Nat) : GX g ad (X0 g ad) := ⟨invX0 g ad, gx0_2 g ad, gx0_39 g ad, gx0_57 g ad, gx0_75 g ad, ar_z (gx0a_2 g ad), ar_z (gx0a_39 g ad), ar_z (gx0a_57 g ad), ar_z (gx0a_75 g ad)⟩
theorem gm0e (g : GG) (ad : Nat → Nat) (j : Nat) : elm (M0 g ad 7) j = 0 := by
  have c : M0 g ad 7 = .inl (g.2 0, 50, .inl zf) := rfl
  rw [elm_of c]; show (0 : Int32).toInt = 0; decide
theorem gm0l (g : GG) (ad : Nat → Nat) (j : Nat) : elm (M0 g ad 6) j = 0 := by
  have c : M0 g ad 6 = .inl (g.2 0, 5, .inl zf) := rfl
  rw [elm_of c]; show (0 : Int32).toInt = 0; decide
theorem gm0_0 (g : GG) (ad : Nat → Nat) : TPc0 (M0 g ad 6) (M0 g ad 7) := by
  refine ⟨?_, ?_, ?_, ?_, ?_⟩ <;> simp only [gm0e, gm0l] <;> decide
theorem gm0_1 (g : GG) (ad : Nat → Nat) : TPc1 (M0 g ad 6) (M0 g ad 7) := by
  refine ⟨?_, ?_, ?_, ?_, ?_⟩ <;> simp only [gm0e, gm0l] <;> decide
theorem gm0_2 (g : GG) (ad : Nat → Nat) : TPc2 (M0 g ad 6) (M0 g ad 7) := by
  refine ⟨?_, ?_, ?_, ?_, ?_⟩ <;> simp only [gm0e, gm0l] <;> decide
theorem gm0_3 (g : GG) (ad : Nat → Nat) : TPc3 (M0 g ad 6) (M0 g ad 7) := by
  refine ⟨?_, ?_, ?_, ?_, ?_⟩ <;> simp only [gm0e, gm0l] <;> decide
theorem gm0 (g : GG) (ad : Nat → Nat) : GM g ad (M0 g ad) := ⟨invM0 g ad, gm0_0 g ad, gm0_1 g ad, gm0_2 g ad, gm0_3 g ad, at_z (by rw [gm0e]; decide), at_z (by rw [gm0e]; decide), at_z (by rw [gm0e]; decide), at_z (by rw [gm0e]; decide), ht_z (by rw [gm0e]; decide), ht_z (by rw [gm0e]; decide), ht_z (by rw [gm0e]; decide), ht_z (by rw [gm0e]; decide)⟩
theorem rr0 (g : GG) (ad ad' : Nat → Nat) : RR (X0 g ad) (M0 g ad') := by
  have c1 : X0 g ad 93 = .inl (g.2 3, 3, .inl zf) := rfl
  have c2 : M0 g ad' 13 = .inl (g.2 3, 3, .inl zf) := rfl
  have c3 : X0 g ad 118 = .inl (g.2 0, 4, .inl szF) := rfl
  have c4 : M0 g ad' 1 = .inl (g.2 0, 4, .inl wdF) := rfl
  refine ⟨fun j hj => by rw [elm_of c1, elm_of c2], fun j hj => Or.inl ?_⟩
  rw [elm_of c3, elm_of c4]
  rcases (show j = 0 ∨ j = 1 ∨ j = 2 ∨ j = 3 by omega) with rfl | rfl | rfl | rfl <;> exact ⟨by decide, by decide⟩
