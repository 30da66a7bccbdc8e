abbrev OKX_0 (g : GG) (ad : Nat → Nat) (e : va_E) : Prop := ∃ (v1 : Int32) (v2 : Int32) (v3 : Int32), e = .inr (11, [.ref (ad 1), .int v1, .int v2, .int v3, .ref (ad 2), .ref (ad 20), .ref (ad 38), .ref (ad 93), .ref (ad 94), .ref (ad 95), .ref (ad 102), .ref (ad 104), .ref (ad 107), .ref (ad 111), .ref (ad 119)]) ∧ Bd v1 (0) (1200)
abbrev OKX_1 (g : GG) (ad : Nat → Nat) (e : va_E) : Prop := ∃ f : Nat → Int32, e = .inl (g.2 1, 1200, .inl f) ∧ ∀ j, Bd (f j) (-128) (127)
abbrev OKX_2 (g : GG) (ad : Nat → Nat) (e : va_E) : Prop := ∃ (v0 : Int32) (v1 : Int32) (v2 : Int32) (v6 : Int32) (v7 : Int32) (v12 : Int32), e = .inr (1, [.int v0, .int v1, .int v2, .ref (ad 3), .ref (ad 5), .ref (ad 6), .int v6, .int v7, .ref (ad 7), .ref (ad 8), .ref (ad 9), .ref (ad 10), .int v12, .ref (ad 15), .ref (ad 16)]) ∧ Bd v0 (0) (1201) ∧ Bd v1 (0) (12) ∧ Bd v7 (0) (8) ∧ Bd v12 (0) (3)
abbrev OKX_3 (g : GG) (ad : Nat → Nat) (e : va_E) : Prop := ∃ (v0 : Int32) (v1 : Int32) (v2 : Int32) (v3 : Int32), e = .inr (10, [.int v0, .int v1, .int v2, .int v3, .ref (ad 4)]) ∧ Bd v0 (0) (12) ∧ Bd v1 (0) (6) ∧ Bd v2 (0) (12) ∧ Bd v3 (0) (36)
abbrev OKX_4 (g : GG) (ad : Nat → Nat) (e : va_E) : Prop := ∃ f : Nat → Int32, e = .inl (g.2 0, 36, .inl f)
abbrev OKX_5 (g : GG) (ad : Nat → Nat) (e : va_E) : Prop := ∃ f : Nat → Int32, e = .inl (g.2 0, 12, .inl f)
abbrev OKX_6 (g : GG) (ad : Nat → Nat) (e : va_E) : Prop := ∃ f : Nat → Int32, e = .inl (g.2 0, 12, .inl f)
abbrev OKX_7 (g : GG) (ad : Nat → Nat) (e : va_E) : Prop := ∃ f : Nat → Int32, e = .inl (g.2 0, 8, .inl f)
abbrev OKX_8 (g : GG) (ad : Nat → Nat) (e : va_E) : Prop := ∃ f : Nat → Int32, e = .inl (g.2 0, 8, .inl f) ∧ ∀ j, Bd (f j) (0) (11)
abbrev OKX_9 (g : GG) (ad : Nat → Nat) (e : va_E) : Prop := ∃ f : Nat → Int32, e = .inl (g.2 0, 8, .inl f) ∧ ∀ j, Bd (f j) (0) (99)
abbrev OKX_10 (g : GG) (ad : Nat → Nat) (e : va_E) : Prop := ∃ (v0 : Int32), e = .inr (6, [.int v0, .ref (ad 11), .ref (ad 12), .ref (ad 13), .ref (ad 14)]) ∧ Bd v0 (0) (6)
abbrev OKX_11 (g : GG) (ad : Nat → Nat) (e : va_E) : Prop := ∃ f : Nat → Int32, e = .inl (g.2 0, 6, .inl f)
abbrev OKX_12 (g : GG) (ad : Nat → Nat) (e : va_E) : Prop := ∃ f : Nat → Int32, e = .inl (g.2 0, 6, .inl f)
abbrev OKX_13 (g : GG) (ad : Nat → Nat) (e : va_E) : Prop := ∃ f : Nat → Int32, e = .inl (g.2 0, 6, .inl f)
abbrev OKX_14 (g : GG) (ad : Nat → Nat) (e : va_E) : Prop := ∃ f : Nat → Int32, e = .inl (g.2 0, 6, .inl f)
abbrev OKX_15 (g : GG) (ad : Nat → Nat) (e : va_E) : Prop := ∃ f : Nat → Int32, e = .inl (g.2 0, 3, .inl f) ∧ ∀ j, Bd (f j) (0) (11)
abbrev OKX_16 (g : GG) (ad : Nat → Nat) (e : va_E) : Prop := ∃ (v0 : Int32), e = .inr (0, [.int v0, .ref (ad 17), .ref (ad 18), .ref (ad 19)]) ∧ Bd v0 (0) (40)
abbrev OKX_17 (g : GG) (ad : Nat → Nat) (e : va_E) : Prop := ∃ f : Nat → Int32, e = .inl (g.2 0, 40, .inl f)
abbrev OKX_18 (g : GG) (ad : Nat → Nat) (e : va_E) : Prop := ∃ f : Nat → Int32, e = .inl (g.2 0, 40, .inl f) ∧ ∀ j, Bd (f j) (0) (7)
abbrev OKX_19 (g : GG) (ad : Nat → Nat) (e : va_E) : Prop := ∃ f : Nat → Int32, e = .inl (g.2 0, 40, .inl f) ∧ ∀ j, Bd (f j) (0) (400)
abbrev OKX_20 (g : GG) (ad : Nat → Nat) (e : va_E) : Prop := ∃ (v0 : Int32) (v1 : Int32) (v2 : Int32) (v6 : Int32) (v7 : Int32) (v12 : Int32), e = .inr (1, [.int v0, .int v1, .int v2, .ref (ad 21), .ref (ad 23), .ref (ad 24), .int v6, .int v7, .ref (ad 25), .ref (ad 26), .ref (ad 27), .ref (ad 28), .int v12, .ref (ad 33), .ref (ad 34)]) ∧ Bd v0 (0) (1201) ∧ Bd v1 (0) (12) ∧ Bd v7 (0) (8) ∧ Bd v12 (0) (3)
abbrev OKX_21 (g : GG) (ad : Nat → Nat) (e : va_E) : Prop := ∃ (v0 : Int32) (v1 : Int32) (v2 : Int32) (v3 : Int32), e = .inr (10, [.int v0, .int v1, .int v2, .int v3, .ref (ad 22)]) ∧ Bd v0 (0) (12) ∧ Bd v1 (0) (6) ∧ Bd v2 (0) (12) ∧ Bd v3 (0) (36)
abbrev OKX_22 (g : GG) (ad : Nat → Nat) (e : va_E) : Prop := ∃ f : Nat → Int32, e = .inl (g.2 0, 36, .inl f)
abbrev OKX_23 (g : GG) (ad : Nat → Nat) (e : va_E) : Prop := ∃ f : Nat → Int32, e = .inl (g.2 0, 12, .inl f)
abbrev OKX_24 (g : GG) (ad : Nat → Nat) (e : va_E) : Prop := ∃ f : Nat → Int32, e = .inl (g.2 0, 12, .inl f)
abbrev OKX_25 (g : GG) (ad : Nat → Nat) (e : va_E) : Prop := ∃ f : Nat → Int32, e = .inl (g.2 0, 8, .inl f)
abbrev OKX_26 (g : GG) (ad : Nat → Nat) (e : va_E) : Prop := ∃ f : Nat → Int32, e = .inl (g.2 0, 8, .inl f) ∧ ∀ j, Bd (f j) (0) (11)
abbrev OKX_27 (g : GG) (ad : Nat → Nat) (e : va_E) : Prop := ∃ f : Nat → Int32, e = .inl (g.2 0, 8, .inl f) ∧ ∀ j, Bd (f j) (0) (99)
abbrev OKX_28 (g : GG) (ad : Nat → Nat) (e : va_E) : Prop := ∃ (v0 : Int32), e = .inr (6, [.int v0, .ref (ad 29), .ref (ad 30), .ref (ad 31), .ref (ad 32)]) ∧ Bd v0 (0) (6)
abbrev OKX_29 (g : GG) (ad : Nat → Nat) (e : va_E) : Prop := ∃ f : Nat → Int32, e = .inl (g.2 0, 6, .inl f)
abbrev OKX_30 (g : GG) (ad : Nat → Nat) (e : va_E) : Prop := ∃ f : Nat → Int32, e = .inl (g.2 0, 6, .inl f)
abbrev OKX_31 (g : GG) (ad : Nat → Nat) (e : va_E) : Prop := ∃ f : Nat → Int32, e = .inl (g.2 0, 6, .inl f)
abbrev OKX_32 (g : GG) (ad : Nat → Nat) (e : va_E) : Prop := ∃ f : Nat → Int32, e = .inl (g.2 0, 6, .inl f)
abbrev OKX_33 (g : GG) (ad : Nat → Nat) (e : va_E) : Prop := ∃ f : Nat → Int32, e = .inl (g.2 0, 3, .inl f) ∧ ∀ j, Bd (f j) (0) (11)
abbrev OKX_34 (g : GG) (ad : Nat → Nat) (e : va_E) : Prop := ∃ (v0 : Int32), e = .inr (0, [.int v0, .ref (ad 35), .ref (ad 36), .ref (ad 37)]) ∧ Bd v0 (0) (40)
abbrev OKX_35 (g : GG) (ad : Nat → Nat) (e : va_E) : Prop := ∃ f : Nat → Int32, e = .inl (g.2 0, 40, .inl f)
abbrev OKX_36 (g : GG) (ad : Nat → Nat) (e : va_E) : Prop := ∃ f : Nat → Int32, e = .inl (g.2 0, 40, .inl f) ∧ ∀ j, Bd (f j) (0) (7)
abbrev OKX_37 (g : GG) (ad : Nat → Nat) (e : va_E) : Prop := ∃ f : Nat → Int32, e = .inl (g.2 0, 40, .inl f) ∧ ∀ j, Bd (f j) (0) (400)
abbrev OKX_38 (g : GG) (ad : Nat → Nat) (e : va_E) : Prop := e = .inl (g.2 4, 3, .inr (.inr (.inr (.inr (imF ad)))))
abbrev OKX_39 (g : GG) (ad : Nat → Nat) (e : va_E) : Prop := ∃ (v0 : Int32) (v1 : Int32) (v2 : Int32) (v6 : Int32) (v7 : Int32) (v12 : Int32), e = .inr (1, [.int v0, .int v1, .int v2, .ref (ad 40), .ref (ad 42), .ref (ad 43), .int v6, .int v7, .ref (ad 44), .ref (ad 45), .ref (ad 46), .ref (ad 47), .int v12, .ref (ad 52), .ref (ad 53)]) ∧ Bd v0 (0) (1201) ∧ Bd v1 (0) (12) ∧ Bd v7 (0) (8) ∧ Bd v12 (0) (3)
abbrev OKX_40 (g : GG) (ad : Nat → Nat) (e : va_E) : Prop := ∃ (v0 : Int32) (v1 : Int32) (v2 : Int32) (v3 : Int32), e = .inr (10, [.int v0, .int v1, .int v2, .int v3, .ref (ad 41)]) ∧ Bd v0 (0) (12) ∧ Bd v1 (0) (6) ∧ Bd v2 (0) (12) ∧ Bd v3 (0) (36)
abbrev OKX_41 (g : GG) (ad : Nat → Nat) (e : va_E) : Prop := ∃ f : Nat → Int32, e = .inl (g.2 0, 36, .inl f)
abbrev OKX_42 (g : GG) (ad : Nat → Nat) (e : va_E) : Prop := ∃ f : Nat → Int32, e = .inl (g.2 0, 12, .inl f)
abbrev OKX_43 (g : GG) (ad : Nat → Nat) (e : va_E) : Prop := ∃ f : Nat → Int32, e = .inl (g.2 0, 12, .inl f)
abbrev OKX_44 (g : GG) (ad : Nat → Nat) (e : va_E) : Prop := ∃ f : Nat → Int32, e = .inl (g.2 0, 8, .inl f)
abbrev OKX_45 (g : GG) (ad : Nat → Nat) (e : va_E) : Prop := ∃ f : Nat → Int32, e = .inl (g.2 0, 8, .inl f) ∧ ∀ j, Bd (f j) (0) (11)
abbrev OKX_46 (g : GG) (ad : Nat → Nat) (e : va_E) : Prop := ∃ f : Nat → Int32, e = .inl (g.2 0, 8, .inl f) ∧ ∀ j, Bd (f j) (0) (99)
abbrev OKX_47 (g : GG) (ad : Nat → Nat) (e : va_E) : Prop := ∃ (v0 : Int32), e = .inr (6, [.int v0, .ref (ad 48), .ref (ad 49), .ref (ad 50), .ref (ad 51)]) ∧ Bd v0 (0) (6)
abbrev OKX_48 (g : GG) (ad : Nat → Nat) (e : va_E) : Prop := ∃ f : Nat → Int32, e = .inl (g.2 0, 6, .inl f)
abbrev OKX_49 (g : GG) (ad : Nat → Nat) (e : va_E) : Prop := ∃ f : Nat → Int32, e = .inl (g.2 0, 6, .inl f)
abbrev OKX_50 (g : GG) (ad : Nat → Nat) (e : va_E) : Prop := ∃ f : Nat → Int32, e = .inl (g.2 0, 6, .inl f)
abbrev OKX_51 (g : GG) (ad : Nat → Nat) (e : va_E) : Prop := ∃ f : Nat → Int32, e = .inl (g.2 0, 6, .inl f)
abbrev OKX_52 (g : GG) (ad : Nat → Nat) (e : va_E) : Prop := ∃ f : Nat → Int32, e = .inl (g.2 0, 3, .inl f) ∧ ∀ j, Bd (f j) (0) (11)
abbrev OKX_53 (g : GG) (ad : Nat → Nat) (e : va_E) : Prop := ∃ (v0 : Int32), e = .inr (0, [.int v0, .ref (ad 54), .ref (ad 55), .ref (ad 56)]) ∧ Bd v0 (0) (40)
abbrev OKX_54 (g : GG) (ad : Nat → Nat) (e : va_E) : Prop := ∃ f : Nat → Int32, e = .inl (g.2 0, 40, .inl f)
abbrev OKX_55 (g : GG) (ad : Nat → Nat) (e : va_E) : Prop := ∃ f : Nat → Int32, e = .inl (g.2 0, 40, .inl f) ∧ ∀ j, Bd (f j) (0) (7)
abbrev OKX_56 (g : GG) (ad : Nat → Nat) (e : va_E) : Prop := ∃ f : Nat → Int32, e = .inl (g.2 0, 40, .inl f) ∧ ∀ j, Bd (f j) (0) (400)
abbrev OKX_57 (g : GG) (ad : Nat → Nat) (e : va_E) : Prop := ∃ (v0 : Int32) (v1 : Int32) (v2 : Int32) (v6 : Int32) (v7 : Int32) (v12 : Int32), e = .inr (1, [.int v0, .int v1, .int v2, .ref (ad 58), .ref (ad 60), .ref (ad 61), .int v6, .int v7, .ref (ad 62), .ref (ad 63), .ref (ad 64), .ref (ad 65), .int v12, .ref (ad 70), .ref (ad 71)]) ∧ Bd v0 (0) (1201) ∧ Bd v1 (0) (12) ∧ Bd v7 (0) (8) ∧ Bd v12 (0) (3)
abbrev OKX_58 (g : GG) (ad : Nat → Nat) (e : va_E) : Prop := ∃ (v0 : Int32) (v1 : Int32) (v2 : Int32) (v3 : Int32), e = .inr (10, [.int v0, .int v1, .int v2, .int v3, .ref (ad 59)]) ∧ Bd v0 (0) (12) ∧ Bd v1 (0) (6) ∧ Bd v2 (0) (12) ∧ Bd v3 (0) (36)
abbrev OKX_59 (g : GG) (ad : Nat → Nat) (e : va_E) : Prop := ∃ f : Nat → Int32, e = .inl (g.2 0, 36, .inl f)
abbrev OKX_60 (g : GG) (ad : Nat → Nat) (e : va_E) : Prop := ∃ f : Nat → Int32, e = .inl (g.2 0, 12, .inl f)
abbrev OKX_61 (g : GG) (ad : Nat → Nat) (e : va_E) : Prop := ∃ f : Nat → Int32, e = .inl (g.2 0, 12, .inl f)
abbrev OKX_62 (g : GG) (ad : Nat → Nat) (e : va_E) : Prop := ∃ f : Nat → Int32, e = .inl (g.2 0, 8, .inl f)
abbrev OKX_63 (g : GG) (ad : Nat → Nat) (e : va_E) : Prop := ∃ f : Nat → Int32, e = .inl (g.2 0, 8, .inl f) ∧ ∀ j, Bd (f j) (0) (11)
abbrev OKX_64 (g : GG) (ad : Nat → Nat) (e : va_E) : Prop := ∃ f : Nat → Int32, e = .inl (g.2 0, 8, .inl f) ∧ ∀ j, Bd (f j) (0) (99)
abbrev OKX_65 (g : GG) (ad : Nat → Nat) (e : va_E) : Prop := ∃ (v0 : Int32), e = .inr (6, [.int v0, .ref (ad 66), .ref (ad 67), .ref (ad 68), .ref (ad 69)]) ∧ Bd v0 (0) (6)
abbrev OKX_66 (g : GG) (ad : Nat → Nat) (e : va_E) : Prop := ∃ f : Nat → Int32, e = .inl (g.2 0, 6, .inl f)
abbrev OKX_67 (g : GG) (ad : Nat → Nat) (e : va_E) : Prop := ∃ f : Nat → Int32, e = .inl (g.2 0, 6, .inl f)
abbrev OKX_68 (g : GG) (ad : Nat → Nat) (e : va_E) : Prop := ∃ f : Nat → Int32, e = .inl (g.2 0, 6, .inl f)
abbrev OKX_69 (g : GG) (ad : Nat → Nat) (e : va_E) : Prop := ∃ f : Nat → Int32, e = .inl (g.2 0, 6, .inl f)
abbrev OKX_70 (g : GG) (ad : Nat → Nat) (e : va_E) : Prop := ∃ f : Nat → Int32, e = .inl (g.2 0, 3, .inl f) ∧ ∀ j, Bd (f j) (0) (11)
abbrev OKX_71 (g : GG) (ad : Nat → Nat) (e : va_E) : Prop := ∃ (v0 : Int32), e = .inr (0, [.int v0, .ref (ad 72), .ref (ad 73), .ref (ad 74)]) ∧ Bd v0 (0) (40)
abbrev OKX_72 (g : GG) (ad : Nat → Nat) (e : va_E) : Prop := ∃ f : Nat → Int32, e = .inl (g.2 0, 40, .inl f)
abbrev OKX_73 (g : GG) (ad : Nat → Nat) (e : va_E) : Prop := ∃ f : Nat → Int32, e = .inl (g.2 0, 40, .inl f) ∧ ∀ j, Bd (f j) (0) (7)
abbrev OKX_74 (g : GG) (ad : Nat → Nat) (e : va_E) : Prop := ∃ f : Nat → Int32, e = .inl (g.2 0, 40, .inl f) ∧ ∀ j, Bd (f j) (0) (400)
abbrev OKX_75 (g : GG) (ad : Nat → Nat) (e : va_E) : Prop := ∃ (v0 : Int32) (v1 : Int32) (v2 : Int32) (v6 : Int32) (v7 : Int32) (v12 : Int32), e = .inr (1, [.int v0, .int v1, .int v2, .ref (ad 76), .ref (ad 78), .ref (ad 79), .int v6, .int v7, .ref (ad 80), .ref (ad 81), .ref (ad 82), .ref (ad 83), .int v12, .ref (ad 88), .ref (ad 89)]) ∧ Bd v0 (0) (1201) ∧ Bd v1 (0) (12) ∧ Bd v7 (0) (8) ∧ Bd v12 (0) (3)
abbrev OKX_76 (g : GG) (ad : Nat → Nat) (e : va_E) : Prop := ∃ (v0 : Int32) (v1 : Int32) (v2 : Int32) (v3 : Int32), e = .inr (10, [.int v0, .int v1, .int v2, .int v3, .ref (ad 77)]) ∧ Bd v0 (0) (12) ∧ Bd v1 (0) (6) ∧ Bd v2 (0) (12) ∧ Bd v3 (0) (36)
abbrev OKX_77 (g : GG) (ad : Nat → Nat) (e : va_E) : Prop := ∃ f : Nat → Int32, e = .inl (g.2 0, 36, .inl f)
abbrev OKX_78 (g : GG) (ad : Nat → Nat) (e : va_E) : Prop := ∃ f : Nat → Int32, e = .inl (g.2 0, 12, .inl f)
abbrev OKX_79 (g : GG) (ad : Nat → Nat) (e : va_E) : Prop := ∃ f : Nat → Int32, e = .inl (g.2 0, 12, .inl f)
abbrev OKX_80 (g : GG) (ad : Nat → Nat) (e : va_E) : Prop := ∃ f : Nat → Int32, e = .inl (g.2 0, 8, .inl f)
abbrev OKX_81 (g : GG) (ad : Nat → Nat) (e : va_E) : Prop := ∃ f : Nat → Int32, e = .inl (g.2 0, 8, .inl f) ∧ ∀ j, Bd (f j) (0) (11)
abbrev OKX_82 (g : GG) (ad : Nat → Nat) (e : va_E) : Prop := ∃ f : Nat → Int32, e = .inl (g.2 0, 8, .inl f) ∧ ∀ j, Bd (f j) (0) (99)
abbrev OKX_83 (g : GG) (ad : Nat → Nat) (e : va_E) : Prop := ∃ (v0 : Int32), e = .inr (6, [.int v0, .ref (ad 84), .ref (ad 85), .ref (ad 86), .ref (ad 87)]) ∧ Bd v0 (0) (6)
abbrev OKX_84 (g : GG) (ad : Nat → Nat) (e : va_E) : Prop := ∃ f : Nat → Int32, e = .inl (g.2 0, 6, .inl f)
abbrev OKX_85 (g : GG) (ad : Nat → Nat) (e : va_E) : Prop := ∃ f : Nat → Int32, e = .inl (g.2 0, 6, .inl f)
abbrev OKX_86 (g : GG) (ad : Nat → Nat) (e : va_E) : Prop := ∃ f : Nat → Int32, e = .inl (g.2 0, 6, .inl f)
abbrev OKX_87 (g : GG) (ad : Nat → Nat) (e : va_E) : Prop := ∃ f : Nat → Int32, e = .inl (g.2 0, 6, .inl f)
abbrev OKX_88 (g : GG) (ad : Nat → Nat) (e : va_E) : Prop := ∃ f : Nat → Int32, e = .inl (g.2 0, 3, .inl f) ∧ ∀ j, Bd (f j) (0) (11)
abbrev OKX_89 (g : GG) (ad : Nat → Nat) (e : va_E) : Prop := ∃ (v0 : Int32), e = .inr (0, [.int v0, .ref (ad 90), .ref (ad 91), .ref (ad 92)]) ∧ Bd v0 (0) (40)
abbrev OKX_90 (g : GG) (ad : Nat → Nat) (e : va_E) : Prop := ∃ f : Nat → Int32, e = .inl (g.2 0, 40, .inl f)
abbrev OKX_91 (g : GG) (ad : Nat → Nat) (e : va_E) : Prop := ∃ f : Nat → Int32, e = .inl (g.2 0, 40, .inl f) ∧ ∀ j, Bd (f j) (0) (7)
abbrev OKX_92 (g : GG) (ad : Nat → Nat) (e : va_E) : Prop := ∃ f : Nat → Int32, e = .inl (g.2 0, 40, .inl f) ∧ ∀ j, Bd (f j) (0) (400)
abbrev OKX_93 (g : GG) (ad : Nat → Nat) (e : va_E) : Prop := ∃ f : Nat → Int32, e = .inl (g.2 3, 3, .inl f) ∧ ∀ j, Bd (f j) (0) (1)
abbrev OKX_94 (g : GG) (ad : Nat → Nat) (e : va_E) : Prop := ∃ (v2 : Int32) (v3 : Int32) (v4 : Int32) (v5 : Int32) (v6 : Int32) (v7 : Int32) (v8 : Int32), e = .inr (5, [.ref (ad 1), .ref (ad 20), .int v2, .int v3, .int v4, .int v5, .int v6, .int v7, .int v8]) ∧ Bd v2 (0) (1200) ∧ Bd v4 (0) (1200) ∧ Bd v5 (0) (1200) ∧ Bd v7 (0) (3)
abbrev OKX_95 (g : GG) (ad : Nat → Nat) (e : va_E) : Prop := ∃ (v7 : Int32) (v8 : Int32), e = .inr (2, [.ref (ad 2), .ref (ad 96), .ref (ad 97), .ref (ad 98), .ref (ad 99), .ref (ad 100), .ref (ad 101), .int v7, .int v8]) ∧ Bd v8 (0) (11)
abbrev OKX_96 (g : GG) (ad : Nat → Nat) (e : va_E) : Prop := ∃ f : Nat → Int32, e = .inl (g.2 0, 8, .inl f)
abbrev OKX_97 (g : GG) (ad : Nat → Nat) (e : va_E) : Prop := ∃ f : Nat → Int32, e = .inl (g.2 0, 8, .inl f)
abbrev OKX_98 (g : GG) (ad : Nat → Nat) (e : va_E) : Prop := ∃ f : Nat → Int32, e = .inl (g.2 1, 401, .inl f) ∧ ∀ j, Bd (f j) (-128) (127)
abbrev OKX_99 (g : GG) (ad : Nat → Nat) (e : va_E) : Prop := ∃ f : Nat → Int32, e = .inl (g.2 0, 401, .inl f)
abbrev OKX_100 (g : GG) (ad : Nat → Nat) (e : va_E) : Prop := ∃ f : Nat → Int32, e = .inl (g.2 0, 401, .inl f)
abbrev OKX_101 (g : GG) (ad : Nat → Nat) (e : va_E) : Prop := ∃ f : Nat → Int32, e = .inl (g.2 0, 12, .inl f)
abbrev OKX_102 (g : GG) (ad : Nat → Nat) (e : va_E) : Prop := ∃ (v2 : Int32) (v3 : Int32), e = .inr (4, [.ref (ad 2), .ref (ad 103), .int v2, .int v3]) ∧ Bd v3 (0) (1)
abbrev OKX_103 (g : GG) (ad : Nat → Nat) (e : va_E) : Prop := ∃ f : Nat → Int32, e = .inl (g.2 0, 1212, .inl f)
abbrev OKX_104 (g : GG) (ad : Nat → Nat) (e : va_E) : Prop := e = .inr (9, [.ref (ad 2), .ref (ad 105), .ref (ad 106)])
abbrev OKX_105 (g : GG) (ad : Nat → Nat) (e : va_E) : Prop := ∃ f : Nat → Int32, e = .inl (g.2 0, 12, .inl f)
abbrev OKX_106 (g : GG) (ad : Nat → Nat) (e : va_E) : Prop := ∃ f : Nat → Int32, e = .inl (g.2 0, 12, .inl f)
abbrev OKX_107 (g : GG) (ad : Nat → Nat) (e : va_E) : Prop := e = .inr (7, [.ref (ad 2), .ref (ad 95), .ref (ad 108), .ref (ad 109), .ref (ad 110)])
abbrev OKX_108 (g : GG) (ad : Nat → Nat) (e : va_E) : Prop := ∃ f : Nat → Int32, e = .inl (g.2 0, 48, .inl f)
abbrev OKX_109 (g : GG) (ad : Nat → Nat) (e : va_E) : Prop := ∃ f : Nat → Int32, e = .inl (g.2 0, 12, .inl f)
abbrev OKX_110 (g : GG) (ad : Nat → Nat) (e : va_E) : Prop := ∃ f : Nat → Int32, e = .inl (g.2 0, 3, .inl f) ∧ ∀ j, Bd (f j) (0) (11)
abbrev OKX_111 (g : GG) (ad : Nat → Nat) (e : va_E) : Prop := e = .inr (8, [.ref (ad 112), .ref (ad 117), .ref (ad 118)])
abbrev OKX_112 (g : GG) (ad : Nat → Nat) (e : va_E) : Prop := e = .inl (g.2 5, 4, .inr (.inr (.inr (.inr (nuF ad)))))
abbrev OKX_113 (g : GG) (ad : Nat → Nat) (e : va_E) : Prop := ∃ f : Nat → Int64, e = .inl (g.2 2, 60, .inr (.inl f))
abbrev OKX_114 (g : GG) (ad : Nat → Nat) (e : va_E) : Prop := ∃ f : Nat → Int64, e = .inl (g.2 2, 60, .inr (.inl f))
abbrev OKX_115 (g : GG) (ad : Nat → Nat) (e : va_E) : Prop := ∃ f : Nat → Int64, e = .inl (g.2 2, 60, .inr (.inl f))
abbrev OKX_116 (g : GG) (ad : Nat → Nat) (e : va_E) : Prop := ∃ f : Nat → Int64, e = .inl (g.2 2, 60, .inr (.inl f))
abbrev OKX_117 (g : GG) (ad : Nat → Nat) (e : va_E) : Prop := ∃ f : Nat → Int32, e = .inl (g.2 0, 4, .inl f) ∧ ∀ j, Bd (f j) (0) (3)
abbrev OKX_118 (g : GG) (ad : Nat → Nat) (e : va_E) : Prop := ∃ f : Nat → Int32, e = .inl (g.2 0, 4, .inl f) ∧ ∀ j, Bd (f j) (-1) (60)
abbrev OKX_119 (g : GG) (ad : Nat → Nat) (e : va_E) : Prop := ∃ (v3 : Int32), e = .inr (3, [.ref (ad 2), .ref (ad 111), .ref (ad 120), .int v3, .ref (ad 121)]) ∧ Bd v3 (0) (49)
abbrev OKX_120 (g : GG) (ad : Nat → Nat) (e : va_E) : Prop := ∃ f : Nat → Int32, e = .inl (g.2 0, 49, .inl f) ∧ ∀ j, Bd (f j) (0) (48)
abbrev OKX_121 (g : GG) (ad : Nat → Nat) (e : va_E) : Prop := ∃ f : Nat → Int32, e = .inl (g.2 0, 12, .inl f)
def OKXT_0 (g : GG) (ad : Nat → Nat) (i : Nat) (e : va_E) : Prop := match i with
  | 0 => OKX_0 g ad e
  | 1 => OKX_1 g ad e
  | 2 => OKX_2 g ad e
  | 3 => OKX_3 g ad e
  | 4 => OKX_4 g ad e
  | 5 => OKX_5 g ad e
  | 6 => OKX_6 g ad e
  | 7 => OKX_7 g ad e
  | 8 => OKX_8 g ad e
  | 9 => OKX_9 g ad e
  | _ => True
def OKXT_1 (g : GG) (ad : Nat → Nat) (i : Nat) (e : va_E) : Prop := match i with
  | 0 => OKX_10 g ad e
  | 1 => OKX_11 g ad e
  | 2 => OKX_12 g ad e
  | 3 => OKX_13 g ad e
  | 4 => OKX_14 g ad e
  | 5 => OKX_15 g ad e
  | 6 => OKX_16 g ad e
  | 7 => OKX_17 g ad e
  | 8 => OKX_18 g ad e
  | 9 => OKX_19 g ad e
  | _ => True
def OKXT_2 (g : GG) (ad : Nat → Nat) (i : Nat) (e : va_E) : Prop := match i with
  | 0 => OKX_20 g ad e
  | 1 => OKX_21 g ad e
  | 2 => OKX_22 g ad e
  | 3 => OKX_23 g ad e
  | 4 => OKX_24 g ad e
  | 5 => OKX_25 g ad e
  | 6 => OKX_26 g ad e
  | 7 => OKX_27 g ad e
  | 8 => OKX_28 g ad e
  | 9 => OKX_29 g ad e
  | _ => True
def OKXT_3 (g : GG) (ad : Nat → Nat) (i : Nat) (e : va_E) : Prop := match i with
  | 0 => OKX_30 g ad e
  | 1 => OKX_31 g ad e
  | 2 => OKX_32 g ad e
  | 3 => OKX_33 g ad e
  | 4 => OKX_34 g ad e
  | 5 => OKX_35 g ad e
  | 6 => OKX_36 g ad e
  | 7 => OKX_37 g ad e
  | 8 => OKX_38 g ad e
  | 9 => OKX_39 g ad e
  | _ => True
def OKXT_4 (g : GG) (ad : Nat → Nat) (i : Nat) (e : va_E) : Prop := match i with
  | 0 => OKX_40 g ad e
  | 1 => OKX_41 g ad e
  | 2 => OKX_42 g ad e
  | 3 => OKX_43 g ad e
  | 4 => OKX_44 g ad e
  | 5 => OKX_45 g ad e
  | 6 => OKX_46 g ad e
  | 7 => OKX_47 g ad e
  | 8 => OKX_48 g ad e
  | 9 => OKX_49 g ad e
  | _ => True
def OKXT_5 (g : GG) (ad : Nat → Nat) (i : Nat) (e : va_E) : Prop := match i with
  | 0 => OKX_50 g ad e
  | 1 => OKX_51 g ad e
  | 2 => OKX_52 g ad e
  | 3 => OKX_53 g ad e
  | 4 => OKX_54 g ad e
  | 5 => OKX_55 g ad e
  | 6 => OKX_56 g ad e
  | 7 => OKX_57 g ad e
  | 8 => OKX_58 g ad e
  | 9 => OKX_59 g ad e
  | _ => True
def OKXT_6 (g : GG) (ad : Nat → Nat) (i : Nat) (e : va_E) : Prop := match i with
  | 0 => OKX_60 g ad e
  | 1 => OKX_61 g ad e
  | 2 => OKX_62 g ad e
  | 3 => OKX_63 g ad e
  | 4 => OKX_64 g ad e
  | 5 => OKX_65 g ad e
  | 6 => OKX_66 g ad e
  | 7 => OKX_67 g ad e
  | 8 => OKX_68 g ad e
  | 9 => OKX_69 g ad e
  | _ => True
def OKXT_7 (g : GG) (ad : Nat → Nat) (i : Nat) (e : va_E) : Prop := match i with
  | 0 => OKX_70 g ad e
  | 1 => OKX_71 g ad e
  | 2 => OKX_72 g ad e
  | 3 => OKX_73 g ad e
  | 4 => OKX_74 g ad e
  | 5 => OKX_75 g ad e
  | 6 => OKX_76 g ad e
  | 7 => OKX_77 g ad e
  | 8 => OKX_78 g ad e
  | 9 => OKX_79 g ad e
  | _ => True
def OKXT_8 (g : GG) (ad : Nat → Nat) (i : Nat) (e : va_E) : Prop := match i with
  | 0 => OKX_80 g ad e
  | 1 => OKX_81 g ad e
  | 2 => OKX_82 g ad e
  | 3 => OKX_83 g ad e
  | 4 => OKX_84 g ad e
  | 5 => OKX_85 g ad e
  | 6 => OKX_86 g ad e
  | 7 => OKX_87 g ad e
  | 8 => OKX_88 g ad e
  | 9 => OKX_89 g ad e
  | _ => True
def OKXT_9 (g : GG) (ad : Nat → Nat) (i : Nat) (e : va_E) : Prop := match i with
  | 0 => OKX_90 g ad e
  | 1 => OKX_91 g ad e
  | 2 => OKX_92 g ad e
  | 3 => OKX_93 g ad e
  | 4 => OKX_94 g ad e
  | 5 => OKX_95 g ad e
  | 6 => OKX_96 g ad e
  | 7 => OKX_97 g ad e
  | 8 => OKX_98 g ad e
  | 9 => OKX_99 g ad e
  | _ => True
def OKXT_10 (g : GG) (ad : Nat → Nat) (i : Nat) (e : va_E) : Prop := match i with
  | 0 => OKX_100 g ad e
  | 1 => OKX_101 g ad e
  | 2 => OKX_102 g ad e
  | 3 => OKX_103 g ad e
  | 4 => OKX_104 g ad e
  | 5 => OKX_105 g ad e
  | 6 => OKX_106 g ad e
  | 7 => OKX_107 g ad e
  | 8 => OKX_108 g ad e
  | 9 => OKX_109 g ad e
  | _ => True
def OKXT_11 (g : GG) (ad : Nat → Nat) (i : Nat) (e : va_E) : Prop := match i with
  | 0 => OKX_110 g ad e
  | 1 => OKX_111 g ad e
  | 2 => OKX_112 g ad e
  | 3 => OKX_113 g ad e
  | 4 => OKX_114 g ad e
  | 5 => OKX_115 g ad e
  | 6 => OKX_116 g ad e
  | 7 => OKX_117 g ad e
  | 8 => OKX_118 g ad e
  | 9 => OKX_119 g ad e
  | _ => True
def OKXT_12 (g : GG) (ad : Nat → Nat) (i : Nat) (e : va_E) : Prop := match i with
  | 0 => OKX_120 g ad e
  | 1 => OKX_121 g ad e
  | _ => True
def OKX (g : GG) (ad : Nat → Nat) (i : Nat) (e : va_E) : Prop := match i / 10 with
  | 0 => OKXT_0 g ad (i % 10) e
  | 1 => OKXT_1 g ad (i % 10) e
  | 2 => OKXT_2 g ad (i % 10) e
  | 3 => OKXT_3 g ad (i % 10) e
  | 4 => OKXT_4 g ad (i % 10) e
  | 5 => OKXT_5 g ad (i % 10) e
  | 6 => OKXT_6 g ad (i % 10) e
  | 7 => OKXT_7 g ad (i % 10) e
  | 8 => OKXT_8 g ad (i % 10) e
  | 9 => OKXT_9 g ad (i % 10) e
  | 10 => OKXT_10 g ad (i % 10) e
  | 11 => OKXT_11 g ad (i % 10) e
  | 12 => OKXT_12 g ad (i % 10) e
  | _ => True
def InvX (g : GG) (ad : Nat → Nat) (S : SS) : Prop := ∀ i, i < 122 → OKX g ad i (S i)
theorem invX_up {g : GG} {ad : Nat → Nat} {S S1 : SS} {k : Nat} {v : va_E} (hI : InvX g ad S) (e : S1 = va_up S k v) (hv : OKX g ad k v) : InvX g ad S1 := fun i hi => by
  by_cases h : i = k
  · subst h; rw [e, va_up_self]; exact hv
  · rw [e, va_up_ne _ _ h]; exact hI i hi
theorem invX_0 {g : GG} {ad : Nat → Nat} {S : SS} (hI : InvX g ad S) : OKX_0 g ad (S 0) := hI 0 (by decide)
theorem invX_up_0 {g : GG} {ad : Nat → Nat} {S S1 : SS} {v : va_E} (hI : InvX g ad S) (e : S1 = va_up S 0 v) (hv : OKX_0 g ad v) : InvX g ad S1 := invX_up hI e hv
theorem invX_1 {g : GG} {ad : Nat → Nat} {S : SS} (hI : InvX g ad S) : OKX_1 g ad (S 1) := hI 1 (by decide)
theorem invX_up_1 {g : GG} {ad : Nat → Nat} {S S1 : SS} {v : va_E} (hI : InvX g ad S) (e : S1 = va_up S 1 v) (hv : OKX_1 g ad v) : InvX g ad S1 := invX_up hI e hv
theorem invX_2 {g : GG} {ad : Nat → Nat} {S : SS} (hI : InvX g ad S) : OKX_2 g ad (S 2) := hI 2 (by decide)
theorem invX_up_2 {g : GG} {ad : Nat → Nat} {S S1 : SS} {v : va_E} (hI : InvX g ad S) (e : S1 = va_up S 2 v) (hv : OKX_2 g ad v) : InvX g ad S1 := invX_up hI e hv
theorem invX_3 {g : GG} {ad : Nat → Nat} {S : SS} (hI : InvX g ad S) : OKX_3 g ad (S 3) := hI 3 (by decide)
theorem invX_up_3 {g : GG} {ad : Nat → Nat} {S S1 : SS} {v : va_E} (hI : InvX g ad S) (e : S1 = va_up S 3 v) (hv : OKX_3 g ad v) : InvX g ad S1 := invX_up hI e hv
theorem invX_4 {g : GG} {ad : Nat → Nat} {S : SS} (hI : InvX g ad S) : OKX_4 g ad (S 4) := hI 4 (by decide)
theorem invX_up_4 {g : GG} {ad : Nat → Nat} {S S1 : SS} {v : va_E} (hI : InvX g ad S) (e : S1 = va_up S 4 v) (hv : OKX_4 g ad v) : InvX g ad S1 := invX_up hI e hv
theorem invX_5 {g : GG} {ad : Nat → Nat} {S : SS} (hI : InvX g ad S) : OKX_5 g ad (S 5) := hI 5 (by decide)
theorem invX_up_5 {g : GG} {ad : Nat → Nat} {S S1 : SS} {v : va_E} (hI : InvX g ad S) (e : S1 = va_up S 5 v) (hv : OKX_5 g ad v) : InvX g ad S1 := invX_up hI e hv
theorem invX_6 {g : GG} {ad : Nat → Nat} {S : SS} (hI : InvX g ad S) : OKX_6 g ad (S 6) := hI 6 (by decide)
theorem invX_up_6 {g : GG} {ad : Nat → Nat} {S S1 : SS} {v : va_E} (hI : InvX g ad S) (e : S1 = va_up S 6 v) (hv : OKX_6 g ad v) : InvX g ad S1 := invX_up hI e hv
theorem invX_7 {g : GG} {ad : Nat → Nat} {S : SS} (hI : InvX g ad S) : OKX_7 g ad (S 7) := hI 7 (by decide)
theorem invX_up_7 {g : GG} {ad : Nat → Nat} {S S1 : SS} {v : va_E} (hI : InvX g ad S) (e : S1 = va_up S 7 v) (hv : OKX_7 g ad v) : InvX g ad S1 := invX_up hI e hv
theorem invX_8 {g : GG} {ad : Nat → Nat} {S : SS} (hI : InvX g ad S) : OKX_8 g ad (S 8) := hI 8 (by decide)
theorem invX_up_8 {g : GG} {ad : Nat → Nat} {S S1 : SS} {v : va_E} (hI : InvX g ad S) (e : S1 = va_up S 8 v) (hv : OKX_8 g ad v) : InvX g ad S1 := invX_up hI e hv
theorem invX_9 {g : GG} {ad : Nat → Nat} {S : SS} (hI : InvX g ad S) : OKX_9 g ad (S 9) := hI 9 (by decide)
theorem invX_up_9 {g : GG} {ad : Nat → Nat} {S S1 : SS} {v : va_E} (hI : InvX g ad S) (e : S1 = va_up S 9 v) (hv : OKX_9 g ad v) : InvX g ad S1 := invX_up hI e hv
theorem invX_10 {g : GG} {ad : Nat → Nat} {S : SS} (hI : InvX g ad S) : OKX_10 g ad (S 10) := hI 10 (by decide)
theorem invX_up_10 {g : GG} {ad : Nat → Nat} {S S1 : SS} {v : va_E} (hI : InvX g ad S) (e : S1 = va_up S 10 v) (hv : OKX_10 g ad v) : InvX g ad S1 := invX_up hI e hv
theorem invX_11 {g : GG} {ad : Nat → Nat} {S : SS} (hI : InvX g ad S) : OKX_11 g ad (S 11) := hI 11 (by decide)
theorem invX_up_11 {g : GG} {ad : Nat → Nat} {S S1 : SS} {v : va_E} (hI : InvX g ad S) (e : S1 = va_up S 11 v) (hv : OKX_11 g ad v) : InvX g ad S1 := invX_up hI e hv
theorem invX_12 {g : GG} {ad : Nat → Nat} {S : SS} (hI : InvX g ad S) : OKX_12 g ad (S 12) := hI 12 (by decide)
theorem invX_up_12 {g : GG} {ad : Nat → Nat} {S S1 : SS} {v : va_E} (hI : InvX g ad S) (e : S1 = va_up S 12 v) (hv : OKX_12 g ad v) : InvX g ad S1 := invX_up hI e hv
theorem invX_13 {g : GG} {ad : Nat → Nat} {S : SS} (hI : InvX g ad S) : OKX_13 g ad (S 13) := hI 13 (by decide)
theorem invX_up_13 {g : GG} {ad : Nat → Nat} {S S1 : SS} {v : va_E} (hI : InvX g ad S) (e : S1 = va_up S 13 v) (hv : OKX_13 g ad v) : InvX g ad S1 := invX_up hI e hv
theorem invX_14 {g : GG} {ad : Nat → Nat} {S : SS} (hI : InvX g ad S) : OKX_14 g ad (S 14) := hI 14 (by decide)
theorem invX_up_14 {g : GG} {ad : Nat → Nat} {S S1 : SS} {v : va_E} (hI : InvX g ad S) (e : S1 = va_up S 14 v) (hv : OKX_14 g ad v) : InvX g ad S1 := invX_up hI e hv
theorem invX_15 {g : GG} {ad : Nat → Nat} {S : SS} (hI : InvX g ad S) : OKX_15 g ad (S 15) := hI 15 (by decide)
theorem invX_up_15 {g : GG} {ad : Nat → Nat} {S S1 : SS} {v : va_E} (hI : InvX g ad S) (e : S1 = va_up S 15 v) (hv : OKX_15 g ad v) : InvX g ad S1 := invX_up hI e hv
theorem invX_16 {g : GG} {ad : Nat → Nat} {S : SS} (hI : InvX g ad S) : OKX_16 g ad (S 16) := hI 16 (by decide)
theorem invX_up_16 {g : GG} {ad : Nat → Nat} {S S1 : SS} {v : va_E} (hI : InvX g ad S) (e : S1 = va_up S 16 v) (hv : OKX_16 g ad v) : InvX g ad S1 := invX_up hI e hv
theorem invX_17 {g : GG} {ad : Nat → Nat} {S : SS} (hI : InvX g ad S) : OKX_17 g ad (S 17) := hI 17 (by decide)
theorem invX_up_17 {g : GG} {ad : Nat → Nat} {S S1 : SS} {v : va_E} (hI : InvX g ad S) (e : S1 = va_up S 17 v) (hv : OKX_17 g ad v) : InvX g ad S1 := invX_up hI e hv
theorem invX_18 {g : GG} {ad : Nat → Nat} {S : SS} (hI : InvX g ad S) : OKX_18 g ad (S 18) := hI 18 (by decide)
theorem invX_up_18 {g : GG} {ad : Nat → Nat} {S S1 : SS} {v : va_E} (hI : InvX g ad S) (e : S1 = va_up S 18 v) (hv : OKX_18 g ad v) : InvX g ad S1 := invX_up hI e hv
theorem invX_19 {g : GG} {ad : Nat → Nat} {S : SS} (hI : InvX g ad S) : OKX_19 g ad (S 19) := hI 19 (by decide)
theorem invX_up_19 {g : GG} {ad : Nat → Nat} {S S1 : SS} {v : va_E} (hI : InvX g ad S) (e : S1 = va_up S 19 v) (hv : OKX_19 g ad v) : InvX g ad S1 := invX_up hI e hv
theorem invX_20 {g : GG} {ad : Nat → Nat} {S : SS} (hI : InvX g ad S) : OKX_20 g ad (S 20) := hI 20 (by decide)
theorem invX_up_20 {g : GG} {ad : Nat → Nat} {S S1 : SS} {v : va_E} (hI : InvX g ad S) (e : S1 = va_up S 20 v) (hv : OKX_20 g ad v) : InvX g ad S1 := invX_up hI e hv
theorem invX_21 {g : GG} {ad : Nat → Nat} {S : SS} (hI : InvX g ad S) : OKX_21 g ad (S 21) := hI 21 (by decide)
theorem invX_up_21 {g : GG} {ad : Nat → Nat} {S S1 : SS} {v : va_E} (hI : InvX g ad S) (e : S1 = va_up S 21 v) (hv : OKX_21 g ad v) : InvX g ad S1 := invX_up hI e hv
theorem invX_22 {g : GG} {ad : Nat → Nat} {S : SS} (hI : InvX g ad S) : OKX_22 g ad (S 22) := hI 22 (by decide)
theorem invX_up_22 {g : GG} {ad : Nat → Nat} {S S1 : SS} {v : va_E} (hI : InvX g ad S) (e : S1 = va_up S 22 v) (hv : OKX_22 g ad v) : InvX g ad S1 := invX_up hI e hv
theorem invX_23 {g : GG} {ad : Nat → Nat} {S : SS} (hI : InvX g ad S) : OKX_23 g ad (S 23) := hI 23 (by decide)
theorem invX_up_23 {g : GG} {ad : Nat → Nat} {S S1 : SS} {v : va_E} (hI : InvX g ad S) (e : S1 = va_up S 23 v) (hv : OKX_23 g ad v) : InvX g ad S1 := invX_up hI e hv
theorem invX_24 {g : GG} {ad : Nat → Nat} {S : SS} (hI : InvX g ad S) : OKX_24 g ad (S 24) := hI 24 (by decide)
theorem invX_up_24 {g : GG} {ad : Nat → Nat} {S S1 : SS} {v : va_E} (hI : InvX g ad S) (e : S1 = va_up S 24 v) (hv : OKX_24 g ad v) : InvX g ad S1 := invX_up hI e hv
theorem invX_25 {g : GG} {ad : Nat → Nat} {S : SS} (hI : InvX g ad S) : OKX_25 g ad (S 25) := hI 25 (by decide)
theorem invX_up_25 {g : GG} {ad : Nat → Nat} {S S1 : SS} {v : va_E} (hI : InvX g ad S) (e : S1 = va_up S 25 v) (hv : OKX_25 g ad v) : InvX g ad S1 := invX_up hI e hv
theorem invX_26 {g : GG} {ad : Nat → Nat} {S : SS} (hI : InvX g ad S) : OKX_26 g ad (S 26) := hI 26 (by decide)
theorem invX_up_26 {g : GG} {ad : Nat → Nat} {S S1 : SS} {v : va_E} (hI : InvX g ad S) (e : S1 = va_up S 26 v) (hv : OKX_26 g ad v) : InvX g ad S1 := invX_up hI e hv
theorem invX_27 {g : GG} {ad : Nat → Nat} {S : SS} (hI : InvX g ad S) : OKX_27 g ad (S 27) := hI 27 (by decide)
theorem invX_up_27 {g : GG} {ad : Nat → Nat} {S S1 : SS} {v : va_E} (hI : InvX g ad S) (e : S1 = va_up S 27 v) (hv : OKX_27 g ad v) : InvX g ad S1 := invX_up hI e hv
theorem invX_28 {g : GG} {ad : Nat → Nat} {S : SS} (hI : InvX g ad S) : OKX_28 g ad (S 28) := hI 28 (by decide)
theorem invX_up_28 {g : GG} {ad : Nat → Nat} {S S1 : SS} {v : va_E} (hI : InvX g ad S) (e : S1 = va_up S 28 v) (hv : OKX_28 g ad v) : InvX g ad S1 := invX_up hI e hv
theorem invX_29 {g : GG} {ad : Nat → Nat} {S : SS} (hI : InvX g ad S) : OKX_29 g ad (S 29) := hI 29 (by decide)
theorem invX_up_29 {g : GG} {ad : Nat → Nat} {S S1 : SS} {v : va_E} (hI : InvX g ad S) (e : S1 = va_up S 29 v) (hv : OKX_29 g ad v) : InvX g ad S1 := invX_up hI e hv
theorem invX_30 {g : GG} {ad : Nat → Nat} {S : SS} (hI : InvX g ad S) : OKX_30 g ad (S 30) := hI 30 (by decide)
theorem invX_up_30 {g : GG} {ad : Nat → Nat} {S S1 : SS} {v : va_E} (hI : InvX g ad S) (e : S1 = va_up S 30 v) (hv : OKX_30 g ad v) : InvX g ad S1 := invX_up hI e hv
theorem invX_31 {g : GG} {ad : Nat → Nat} {S : SS} (hI : InvX g ad S) : OKX_31 g ad (S 31) := hI 31 (by decide)
theorem invX_up_31 {g : GG} {ad : Nat → Nat} {S S1 : SS} {v : va_E} (hI : InvX g ad S) (e : S1 = va_up S 31 v) (hv : OKX_31 g ad v) : InvX g ad S1 := invX_up hI e hv
theorem invX_32 {g : GG} {ad : Nat → Nat} {S : SS} (hI : InvX g ad S) : OKX_32 g ad (S 32) := hI 32 (by decide)
theorem invX_up_32 {g : GG} {ad : Nat → Nat} {S S1 : SS} {v : va_E} (hI : InvX g ad S) (e : S1 = va_up S 32 v) (hv : OKX_32 g ad v) : InvX g ad S1 := invX_up hI e hv
theorem invX_33 {g : GG} {ad : Nat → Nat} {S : SS} (hI : InvX g ad S) : OKX_33 g ad (S 33) := hI 33 (by decide)
theorem invX_up_33 {g : GG} {ad : Nat → Nat} {S S1 : SS} {v : va_E} (hI : InvX g ad S) (e : S1 = va_up S 33 v) (hv : OKX_33 g ad v) : InvX g ad S1 := invX_up hI e hv
theorem invX_34 {g : GG} {ad : Nat → Nat} {S : SS} (hI : InvX g ad S) : OKX_34 g ad (S 34) := hI 34 (by decide)
theorem invX_up_34 {g : GG} {ad : Nat → Nat} {S S1 : SS} {v : va_E} (hI : InvX g ad S) (e : S1 = va_up S 34 v) (hv : OKX_34 g ad v) : InvX g ad S1 := invX_up hI e hv
theorem invX_35 {g : GG} {ad : Nat → Nat} {S : SS} (hI : InvX g ad S) : OKX_35 g ad (S 35) := hI 35 (by decide)
theorem invX_up_35 {g : GG} {ad : Nat → Nat} {S S1 : SS} {v : va_E} (hI : InvX g ad S) (e : S1 = va_up S 35 v) (hv : OKX_35 g ad v) : InvX g ad S1 := invX_up hI e hv
theorem invX_36 {g : GG} {ad : Nat → Nat} {S : SS} (hI : InvX g ad S) : OKX_36 g ad (S 36) := hI 36 (by decide)
theorem invX_up_36 {g : GG} {ad : Nat → Nat} {S S1 : SS} {v : va_E} (hI : InvX g ad S) (e : S1 = va_up S 36 v) (hv : OKX_36 g ad v) : InvX g ad S1 := invX_up hI e hv
theorem invX_37 {g : GG} {ad : Nat → Nat} {S : SS} (hI : InvX g ad S) : OKX_37 g ad (S 37) := hI 37 (by decide)
theorem invX_up_37 {g : GG} {ad : Nat → Nat} {S S1 : SS} {v : va_E} (hI : InvX g ad S) (e : S1 = va_up S 37 v) (hv : OKX_37 g ad v) : InvX g ad S1 := invX_up hI e hv
theorem invX_38 {g : GG} {ad : Nat → Nat} {S : SS} (hI : InvX g ad S) : OKX_38 g ad (S 38) := hI 38 (by decide)
theorem invX_up_38 {g : GG} {ad : Nat → Nat} {S S1 : SS} {v : va_E} (hI : InvX g ad S) (e : S1 = va_up S 38 v) (hv : OKX_38 g ad v) : InvX g ad S1 := invX_up hI e hv
theorem invX_39 {g : GG} {ad : Nat → Nat} {S : SS} (hI : InvX g ad S) : OKX_39 g ad (S 39) := hI 39 (by decide)
theorem invX_up_39 {g : GG} {ad : Nat → Nat} {S S1 : SS} {v : va_E} (hI : InvX g ad S) (e : S1 = va_up S 39 v) (hv : OKX_39 g ad v) : InvX g ad S1 := invX_up hI e hv
theorem invX_40 {g : GG} {ad : Nat → Nat} {S : SS} (hI : InvX g ad S) : OKX_40 g ad (S 40) := hI 40 (by decide)
theorem invX_up_40 {g : GG} {ad : Nat → Nat} {S S1 : SS} {v : va_E} (hI : InvX g ad S) (e : S1 = va_up S 40 v) (hv : OKX_40 g ad v) : InvX g ad S1 := invX_up hI e hv
theorem invX_41 {g : GG} {ad : Nat → Nat} {S : SS} (hI : InvX g ad S) : OKX_41 g ad (S 41) := hI 41 (by decide)
theorem invX_up_41 {g : GG} {ad : Nat → Nat} {S S1 : SS} {v : va_E} (hI : InvX g ad S) (e : S1 = va_up S 41 v) (hv : OKX_41 g ad v) : InvX g ad S1 := invX_up hI e hv
theorem invX_42 {g : GG} {ad : Nat → Nat} {S : SS} (hI : InvX g ad S) : OKX_42 g ad (S 42) := hI 42 (by decide)
theorem invX_up_42 {g : GG} {ad : Nat → Nat} {S S1 : SS} {v : va_E} (hI : InvX g ad S) (e : S1 = va_up S 42 v) (hv : OKX_42 g ad v) : InvX g ad S1 := invX_up hI e hv
theorem invX_43 {g : GG} {ad : Nat → Nat} {S : SS} (hI : InvX g ad S) : OKX_43 g ad (S 43) := hI 43 (by decide)
theorem invX_up_43 {g : GG} {ad : Nat → Nat} {S S1 : SS} {v : va_E} (hI : InvX g ad S) (e : S1 = va_up S 43 v) (hv : OKX_43 g ad v) : InvX g ad S1 := invX_up hI e hv
theorem invX_44 {g : GG} {ad : Nat → Nat} {S : SS} (hI : InvX g ad S) : OKX_44 g ad (S 44) := hI 44 (by decide)
theorem invX_up_44 {g : GG} {ad : Nat → Nat} {S S1 : SS} {v : va_E} (hI : InvX g ad S) (e : S1 = va_up S 44 v) (hv : OKX_44 g ad v) : InvX g ad S1 := invX_up hI e hv
theorem invX_45 {g : GG} {ad : Nat → Nat} {S : SS} (hI : InvX g ad S) : OKX_45 g ad (S 45) := hI 45 (by decide)
theorem invX_up_45 {g : GG} {ad : Nat → Nat} {S S1 : SS} {v : va_E} (hI : InvX g ad S) (e : S1 = va_up S 45 v) (hv : OKX_45 g ad v) : InvX g ad S1 := invX_up hI e hv
theorem invX_46 {g : GG} {ad : Nat → Nat} {S : SS} (hI : InvX g ad S) : OKX_46 g ad (S 46) := hI 46 (by decide)
theorem invX_up_46 {g : GG} {ad : Nat → Nat} {S S1 : SS} {v : va_E} (hI : InvX g ad S) (e : S1 = va_up S 46 v) (hv : OKX_46 g ad v) : InvX g ad S1 := invX_up hI e hv
theorem invX_47 {g : GG} {ad : Nat → Nat} {S : SS} (hI : InvX g ad S) : OKX_47 g ad (S 47) := hI 47 (by decide)
theorem invX_up_47 {g : GG} {ad : Nat → Nat} {S S1 : SS} {v : va_E} (hI : InvX g ad S) (e : S1 = va_up S 47 v) (hv : OKX_47 g ad v) : InvX g ad S1 := invX_up hI e hv
theorem invX_48 {g : GG} {ad : Nat → Nat} {S : SS} (hI : InvX g ad S) : OKX_48 g ad (S 48) := hI 48 (by decide)
theorem invX_up_48 {g : GG} {ad : Nat → Nat} {S S1 : SS} {v : va_E} (hI : InvX g ad S) (e : S1 = va_up S 48 v) (hv : OKX_48 g ad v) : InvX g ad S1 := invX_up hI e hv
theorem invX_49 {g : GG} {ad : Nat → Nat} {S : SS} (hI : InvX g ad S) : OKX_49 g ad (S 49) := hI 49 (by decide)
theorem invX_up_49 {g : GG} {ad : Nat → Nat} {S S1 : SS} {v : va_E} (hI : InvX g ad S) (e : S1 = va_up S 49 v) (hv : OKX_49 g ad v) : InvX g ad S1 := invX_up hI e hv
theorem invX_50 {g : GG} {ad : Nat → Nat} {S : SS} (hI : InvX g ad S) : OKX_50 g ad (S 50) := hI 50 (by decide)
theorem invX_up_50 {g : GG} {ad : Nat → Nat} {S S1 : SS} {v : va_E} (hI : InvX g ad S) (e : S1 = va_up S 50 v) (hv : OKX_50 g ad v) : InvX g ad S1 := invX_up hI e hv
theorem invX_51 {g : GG} {ad : Nat → Nat} {S : SS} (hI : InvX g ad S) : OKX_51 g ad (S 51) := hI 51 (by decide)
theorem invX_up_51 {g : GG} {ad : Nat → Nat} {S S1 : SS} {v : va_E} (hI : InvX g ad S) (e : S1 = va_up S 51 v) (hv : OKX_51 g ad v) : InvX g ad S1 := invX_up hI e hv
theorem invX_52 {g : GG} {ad : Nat → Nat} {S : SS} (hI : InvX g ad S) : OKX_52 g ad (S 52) := hI 52 (by decide)
theorem invX_up_52 {g : GG} {ad : Nat → Nat} {S S1 : SS} {v : va_E} (hI : InvX g ad S) (e : S1 = va_up S 52 v) (hv : OKX_52 g ad v) : InvX g ad S1 := invX_up hI e hv
theorem invX_53 {g : GG} {ad : Nat → Nat} {S : SS} (hI : InvX g ad S) : OKX_53 g ad (S 53) := hI 53 (by decide)
theorem invX_up_53 {g : GG} {ad : Nat → Nat} {S S1 : SS} {v : va_E} (hI : InvX g ad S) (e : S1 = va_up S 53 v) (hv : OKX_53 g ad v) : InvX g ad S1 := invX_up hI e hv
theorem invX_54 {g : GG} {ad : Nat → Nat} {S : SS} (hI : InvX g ad S) : OKX_54 g ad (S 54) := hI 54 (by decide)
theorem invX_up_54 {g : GG} {ad : Nat → Nat} {S S1 : SS} {v : va_E} (hI : InvX g ad S) (e : S1 = va_up S 54 v) (hv : OKX_54 g ad v) : InvX g ad S1 := invX_up hI e hv
theorem invX_55 {g : GG} {ad : Nat → Nat} {S : SS} (hI : InvX g ad S) : OKX_55 g ad (S 55) := hI 55 (by decide)
theorem invX_up_55 {g : GG} {ad : Nat → Nat} {S S1 : SS} {v : va_E} (hI : InvX g ad S) (e : S1 = va_up S 55 v) (hv : OKX_55 g ad v) : InvX g ad S1 := invX_up hI e hv
theorem invX_56 {g : GG} {ad : Nat → Nat} {S : SS} (hI : InvX g ad S) : OKX_56 g ad (S 56) := hI 56 (by decide)
theorem invX_up_56 {g : GG} {ad : Nat → Nat} {S S1 : SS} {v : va_E} (hI : InvX g ad S) (e : S1 = va_up S 56 v) (hv : OKX_56 g ad v) : InvX g ad S1 := invX_up hI e hv
theorem invX_57 {g : GG} {ad : Nat → Nat} {S : SS} (hI : InvX g ad S) : OKX_57 g ad (S 57) := hI 57 (by decide)
theorem invX_up_57 {g : GG} {ad : Nat → Nat} {S S1 : SS} {v : va_E} (hI : InvX g ad S) (e : S1 = va_up S 57 v) (hv : OKX_57 g ad v) : InvX g ad S1 := invX_up hI e hv
theorem invX_58 {g : GG} {ad : Nat → Nat} {S : SS} (hI : InvX g ad S) : OKX_58 g ad (S 58) := hI 58 (by decide)
theorem invX_up_58 {g : GG} {ad : Nat → Nat} {S S1 : SS} {v : va_E} (hI : InvX g ad S) (e : S1 = va_up S 58 v) (hv : OKX_58 g ad v) : InvX g ad S1 := invX_up hI e hv
theorem invX_59 {g : GG} {ad : Nat → Nat} {S : SS} (hI : InvX g ad S) : OKX_59 g ad (S 59) := hI 59 (by decide)
theorem invX_up_59 {g : GG} {ad : Nat → Nat} {S S1 : SS} {v : va_E} (hI : InvX g ad S) (e : S1 = va_up S 59 v) (hv : OKX_59 g ad v) : InvX g ad S1 := invX_up hI e hv
theorem invX_60 {g : GG} {ad : Nat → Nat} {S : SS} (hI : InvX g ad S) : OKX_60 g ad (S 60) := hI 60 (by decide)
theorem invX_up_60 {g : GG} {ad : Nat → Nat} {S S1 : SS} {v : va_E} (hI : InvX g ad S) (e : S1 = va_up S 60 v) (hv : OKX_60 g ad v) : InvX g ad S1 := invX_up hI e hv
theorem invX_61 {g : GG} {ad : Nat → Nat} {S : SS} (hI : InvX g ad S) : OKX_61 g ad (S 61) := hI 61 (by decide)
theorem invX_up_61 {g : GG} {ad : Nat → Nat} {S S1 : SS} {v : va_E} (hI : InvX g ad S) (e : S1 = va_up S 61 v) (hv : OKX_61 g ad v) : InvX g ad S1 := invX_up hI e hv
theorem invX_62 {g : GG} {ad : Nat → Nat} {S : SS} (hI : InvX g ad S) : OKX_62 g ad (S 62) := hI 62 (by decide)
theorem invX_up_62 {g : GG} {ad : Nat → Nat} {S S1 : SS} {v : va_E} (hI : InvX g ad S) (e : S1 = va_up S 62 v) (hv : OKX_62 g ad v) : InvX g ad S1 := invX_up hI e hv
theorem invX_63 {g : GG} {ad : Nat → Nat} {S : SS} (hI : InvX g ad S) : OKX_63 g ad (S 63) := hI 63 (by decide)
theorem invX_up_63 {g : GG} {ad : Nat → Nat} {S S1 : SS} {v : va_E} (hI : InvX g ad S) (e : S1 = va_up S 63 v) (hv : OKX_63 g ad v) : InvX g ad S1 := invX_up hI e hv
theorem invX_64 {g : GG} {ad : Nat → Nat} {S : SS} (hI : InvX g ad S) : OKX_64 g ad (S 64) := hI 64 (by decide)
theorem invX_up_64 {g : GG} {ad : Nat → Nat} {S S1 : SS} {v : va_E} (hI : InvX g ad S) (e : S1 = va_up S 64 v) (hv : OKX_64 g ad v) : InvX g ad S1 := invX_up hI e hv
theorem invX_65 {g : GG} {ad : Nat → Nat} {S : SS} (hI : InvX g ad S) : OKX_65 g ad (S 65) := hI 65 (by decide)
theorem invX_up_65 {g : GG} {ad : Nat → Nat} {S S1 : SS} {v : va_E} (hI : InvX g ad S) (e : S1 = va_up S 65 v) (hv : OKX_65 g ad v) : InvX g ad S1 := invX_up hI e hv
theorem invX_66 {g : GG} {ad : Nat → Nat} {S : SS} (hI : InvX g ad S) : OKX_66 g ad (S 66) := hI 66 (by decide)
theorem invX_up_66 {g : GG} {ad : Nat → Nat} {S S1 : SS} {v : va_E} (hI : InvX g ad S) (e : S1 = va_up S 66 v) (hv : OKX_66 g ad v) : InvX g ad S1 := invX_up hI e hv
theorem invX_67 {g : GG} {ad : Nat → Nat} {S : SS} (hI : InvX g ad S) : OKX_67 g ad (S 67) := hI 67 (by decide)
theorem invX_up_67 {g : GG} {ad : Nat → Nat} {S S1 : SS} {v : va_E} (hI : InvX g ad S) (e : S1 = va_up S 67 v) (hv : OKX_67 g ad v) : InvX g ad S1 := invX_up hI e hv
theorem invX_68 {g : GG} {ad : Nat → Nat} {S : SS} (hI : InvX g ad S) : OKX_68 g ad (S 68) := hI 68 (by decide)
theorem invX_up_68 {g : GG} {ad : Nat → Nat} {S S1 : SS} {v : va_E} (hI : InvX g ad S) (e : S1 = va_up S 68 v) (hv : OKX_68 g ad v) : InvX g ad S1 := invX_up hI e hv
theorem invX_69 {g : GG} {ad : Nat → Nat} {S : SS} (hI : InvX g ad S) : OKX_69 g ad (S 69) := hI 69 (by decide)
theorem invX_up_69 {g : GG} {ad : Nat → Nat} {S S1 : SS} {v : va_E} (hI : InvX g ad S) (e : S1 = va_up S 69 v) (hv : OKX_69 g ad v) : InvX g ad S1 := invX_up hI e hv
theorem invX_70 {g : GG} {ad : Nat → Nat} {S : SS} (hI : InvX g ad S) : OKX_70 g ad (S 70) := hI 70 (by decide)
theorem invX_up_70 {g : GG} {ad : Nat → Nat} {S S1 : SS} {v : va_E} (hI : InvX g ad S) (e : S1 = va_up S 70 v) (hv : OKX_70 g ad v) : InvX g ad S1 := invX_up hI e hv
theorem invX_71 {g : GG} {ad : Nat → Nat} {S : SS} (hI : InvX g ad S) : OKX_71 g ad (S 71) := hI 71 (by decide)
theorem invX_up_71 {g : GG} {ad : Nat → Nat} {S S1 : SS} {v : va_E} (hI : InvX g ad S) (e : S1 = va_up S 71 v) (hv : OKX_71 g ad v) : InvX g ad S1 := invX_up hI e hv
theorem invX_72 {g : GG} {ad : Nat → Nat} {S : SS} (hI : InvX g ad S) : OKX_72 g ad (S 72) := hI 72 (by decide)
theorem invX_up_72 {g : GG} {ad : Nat → Nat} {S S1 : SS} {v : va_E} (hI : InvX g ad S) (e : S1 = va_up S 72 v) (hv : OKX_72 g ad v) : InvX g ad S1 := invX_up hI e hv
theorem invX_73 {g : GG} {ad : Nat → Nat} {S : SS} (hI : InvX g ad S) : OKX_73 g ad (S 73) := hI 73 (by decide)
theorem invX_up_73 {g : GG} {ad : Nat → Nat} {S S1 : SS} {v : va_E} (hI : InvX g ad S) (e : S1 = va_up S 73 v) (hv : OKX_73 g ad v) : InvX g ad S1 := invX_up hI e hv
theorem invX_74 {g : GG} {ad : Nat → Nat} {S : SS} (hI : InvX g ad S) : OKX_74 g ad (S 74) := hI 74 (by decide)
theorem invX_up_74 {g : GG} {ad : Nat → Nat} {S S1 : SS} {v : va_E} (hI : InvX g ad S) (e : S1 = va_up S 74 v) (hv : OKX_74 g ad v) : InvX g ad S1 := invX_up hI e hv
theorem invX_75 {g : GG} {ad : Nat → Nat} {S : SS} (hI : InvX g ad S) : OKX_75 g ad (S 75) := hI 75 (by decide)
theorem invX_up_75 {g : GG} {ad : Nat → Nat} {S S1 : SS} {v : va_E} (hI : InvX g ad S) (e : S1 = va_up S 75 v) (hv : OKX_75 g ad v) : InvX g ad S1 := invX_up hI e hv
theorem invX_76 {g : GG} {ad : Nat → Nat} {S : SS} (hI : InvX g ad S) : OKX_76 g ad (S 76) := hI 76 (by decide)
theorem invX_up_76 {g : GG} {ad : Nat → Nat} {S S1 : SS} {v : va_E} (hI : InvX g ad S) (e : S1 = va_up S 76 v) (hv : OKX_76 g ad v) : InvX g ad S1 := invX_up hI e hv
theorem invX_77 {g : GG} {ad : Nat → Nat} {S : SS} (hI : InvX g ad S) : OKX_77 g ad (S 77) := hI 77 (by decide)
theorem invX_up_77 {g : GG} {ad : Nat → Nat} {S S1 : SS} {v : va_E} (hI : InvX g ad S) (e : S1 = va_up S 77 v) (hv : OKX_77 g ad v) : InvX g ad S1 := invX_up hI e hv
theorem invX_78 {g : GG} {ad : Nat → Nat} {S : SS} (hI : InvX g ad S) : OKX_78 g ad (S 78) := hI 78 (by decide)
theorem invX_up_78 {g : GG} {ad : Nat → Nat} {S S1 : SS} {v : va_E} (hI : InvX g ad S) (e : S1 = va_up S 78 v) (hv : OKX_78 g ad v) : InvX g ad S1 := invX_up hI e hv
theorem invX_79 {g : GG} {ad : Nat → Nat} {S : SS} (hI : InvX g ad S) : OKX_79 g ad (S 79) := hI 79 (by decide)
theorem invX_up_79 {g : GG} {ad : Nat → Nat} {S S1 : SS} {v : va_E} (hI : InvX g ad S) (e : S1 = va_up S 79 v) (hv : OKX_79 g ad v) : InvX g ad S1 := invX_up hI e hv
theorem invX_80 {g : GG} {ad : Nat → Nat} {S : SS} (hI : InvX g ad S) : OKX_80 g ad (S 80) := hI 80 (by decide)
theorem invX_up_80 {g : GG} {ad : Nat → Nat} {S S1 : SS} {v : va_E} (hI : InvX g ad S) (e : S1 = va_up S 80 v) (hv : OKX_80 g ad v) : InvX g ad S1 := invX_up hI e hv
theorem invX_81 {g : GG} {ad : Nat → Nat} {S : SS} (hI : InvX g ad S) : OKX_81 g ad (S 81) := hI 81 (by decide)
theorem invX_up_81 {g : GG} {ad : Nat → Nat} {S S1 : SS} {v : va_E} (hI : InvX g ad S) (e : S1 = va_up S 81 v) (hv : OKX_81 g ad v) : InvX g ad S1 := invX_up hI e hv
theorem invX_82 {g : GG} {ad : Nat → Nat} {S : SS} (hI : InvX g ad S) : OKX_82 g ad (S 82) := hI 82 (by decide)
theorem invX_up_82 {g : GG} {ad : Nat → Nat} {S S1 : SS} {v : va_E} (hI : InvX g ad S) (e : S1 = va_up S 82 v) (hv : OKX_82 g ad v) : InvX g ad S1 := invX_up hI e hv
theorem invX_83 {g : GG} {ad : Nat → Nat} {S : SS} (hI : InvX g ad S) : OKX_83 g ad (S 83) := hI 83 (by decide)
theorem invX_up_83 {g : GG} {ad : Nat → Nat} {S S1 : SS} {v : va_E} (hI : InvX g ad S) (e : S1 = va_up S 83 v) (hv : OKX_83 g ad v) : InvX g ad S1 := invX_up hI e hv
theorem invX_84 {g : GG} {ad : Nat → Nat} {S : SS} (hI : InvX g ad S) : OKX_84 g ad (S 84) := hI 84 (by decide)
theorem invX_up_84 {g : GG} {ad : Nat → Nat} {S S1 : SS} {v : va_E} (hI : InvX g ad S) (e : S1 = va_up S 84 v) (hv : OKX_84 g ad v) : InvX g ad S1 := invX_up hI e hv
theorem invX_85 {g : GG} {ad : Nat → Nat} {S : SS} (hI : InvX g ad S) : OKX_85 g ad (S 85) := hI 85 (by decide)
theorem invX_up_85 {g : GG} {ad : Nat → Nat} {S S1 : SS} {v : va_E} (hI : InvX g ad S) (e : S1 = va_up S 85 v) (hv : OKX_85 g ad v) : InvX g ad S1 := invX_up hI e hv
theorem invX_86 {g : GG} {ad : Nat → Nat} {S : SS} (hI : InvX g ad S) : OKX_86 g ad (S 86) := hI 86 (by decide)
theorem invX_up_86 {g : GG} {ad : Nat → Nat} {S S1 : SS} {v : va_E} (hI : InvX g ad S) (e : S1 = va_up S 86 v) (hv : OKX_86 g ad v) : InvX g ad S1 := invX_up hI e hv
theorem invX_87 {g : GG} {ad : Nat → Nat} {S : SS} (hI : InvX g ad S) : OKX_87 g ad (S 87) := hI 87 (by decide)
theorem invX_up_87 {g : GG} {ad : Nat → Nat} {S S1 : SS} {v : va_E} (hI : InvX g ad S) (e : S1 = va_up S 87 v) (hv : OKX_87 g ad v) : InvX g ad S1 := invX_up hI e hv
theorem invX_88 {g : GG} {ad : Nat → Nat} {S : SS} (hI : InvX g ad S) : OKX_88 g ad (S 88) := hI 88 (by decide)
theorem invX_up_88 {g : GG} {ad : Nat → Nat} {S S1 : SS} {v : va_E} (hI : InvX g ad S) (e : S1 = va_up S 88 v) (hv : OKX_88 g ad v) : InvX g ad S1 := invX_up hI e hv
theorem invX_89 {g : GG} {ad : Nat → Nat} {S : SS} (hI : InvX g ad S) : OKX_89 g ad (S 89) := hI 89 (by decide)
theorem invX_up_89 {g : GG} {ad : Nat → Nat} {S S1 : SS} {v : va_E} (hI : InvX g ad S) (e : S1 = va_up S 89 v) (hv : OKX_89 g ad v) : InvX g ad S1 := invX_up hI e hv
theorem invX_90 {g : GG} {ad : Nat → Nat} {S : SS} (hI : InvX g ad S) : OKX_90 g ad (S 90) := hI 90 (by decide)
theorem invX_up_90 {g : GG} {ad : Nat → Nat} {S S1 : SS} {v : va_E} (hI : InvX g ad S) (e : S1 = va_up S 90 v) (hv : OKX_90 g ad v) : InvX g ad S1 := invX_up hI e hv
theorem invX_91 {g : GG} {ad : Nat → Nat} {S : SS} (hI : InvX g ad S) : OKX_91 g ad (S 91) := hI 91 (by decide)
theorem invX_up_91 {g : GG} {ad : Nat → Nat} {S S1 : SS} {v : va_E} (hI : InvX g ad S) (e : S1 = va_up S 91 v) (hv : OKX_91 g ad v) : InvX g ad S1 := invX_up hI e hv
theorem invX_92 {g : GG} {ad : Nat → Nat} {S : SS} (hI : InvX g ad S) : OKX_92 g ad (S 92) := hI 92 (by decide)
theorem invX_up_92 {g : GG} {ad : Nat → Nat} {S S1 : SS} {v : va_E} (hI : InvX g ad S) (e : S1 = va_up S 92 v) (hv : OKX_92 g ad v) : InvX g ad S1 := invX_up hI e hv
theorem invX_93 {g : GG} {ad : Nat → Nat} {S : SS} (hI : InvX g ad S) : OKX_93 g ad (S 93) := hI 93 (by decide)
theorem invX_up_93 {g : GG} {ad : Nat → Nat} {S S1 : SS} {v : va_E} (hI : InvX g ad S) (e : S1 = va_up S 93 v) (hv : OKX_93 g ad v) : InvX g ad S1 := invX_up hI e hv
theorem invX_94 {g : GG} {ad : Nat → Nat} {S : SS} (hI : InvX g ad S) : OKX_94 g ad (S 94) := hI 94 (by decide)
theorem invX_up_94 {g : GG} {ad : Nat → Nat} {S S1 : SS} {v : va_E} (hI : InvX g ad S) (e : S1 = va_up S 94 v) (hv : OKX_94 g ad v) : InvX g ad S1 := invX_up hI e hv
theorem invX_95 {g : GG} {ad : Nat → Nat} {S : SS} (hI : InvX g ad S) : OKX_95 g ad (S 95) := hI 95 (by decide)
theorem invX_up_95 {g : GG} {ad : Nat → Nat} {S S1 : SS} {v : va_E} (hI : InvX g ad S) (e : S1 = va_up S 95 v) (hv : OKX_95 g ad v) : InvX g ad S1 := invX_up hI e hv
theorem invX_96 {g : GG} {ad : Nat → Nat} {S : SS} (hI : InvX g ad S) : OKX_96 g ad (S 96) := hI 96 (by decide)
theorem invX_up_96 {g : GG} {ad : Nat → Nat} {S S1 : SS} {v : va_E} (hI : InvX g ad S) (e : S1 = va_up S 96 v) (hv : OKX_96 g ad v) : InvX g ad S1 := invX_up hI e hv
theorem invX_97 {g : GG} {ad : Nat → Nat} {S : SS} (hI : InvX g ad S) : OKX_97 g ad (S 97) := hI 97 (by decide)
theorem invX_up_97 {g : GG} {ad : Nat → Nat} {S S1 : SS} {v : va_E} (hI : InvX g ad S) (e : S1 = va_up S 97 v) (hv : OKX_97 g ad v) : InvX g ad S1 := invX_up hI e hv
theorem invX_98 {g : GG} {ad : Nat → Nat} {S : SS} (hI : InvX g ad S) : OKX_98 g ad (S 98) := hI 98 (by decide)
theorem invX_up_98 {g : GG} {ad : Nat → Nat} {S S1 : SS} {v : va_E} (hI : InvX g ad S) (e : S1 = va_up S 98 v) (hv : OKX_98 g ad v) : InvX g ad S1 := invX_up hI e hv
theorem invX_99 {g : GG} {ad : Nat → Nat} {S : SS} (hI : InvX g ad S) : OKX_99 g ad (S 99) := hI 99 (by decide)
theorem invX_up_99 {g : GG} {ad : Nat → Nat} {S S1 : SS} {v : va_E} (hI : InvX g ad S) (e : S1 = va_up S 99 v) (hv : OKX_99 g ad v) : InvX g ad S1 := invX_up hI e hv
theorem invX_100 {g : GG} {ad : Nat → Nat} {S : SS} (hI : InvX g ad S) : OKX_100 g ad (S 100) := hI 100 (by decide)
theorem invX_up_100 {g : GG} {ad : Nat → Nat} {S S1 : SS} {v : va_E} (hI : InvX g ad S) (e : S1 = va_up S 100 v) (hv : OKX_100 g ad v) : InvX g ad S1 := invX_up hI e hv
theorem invX_101 {g : GG} {ad : Nat → Nat} {S : SS} (hI : InvX g ad S) : OKX_101 g ad (S 101) := hI 101 (by decide)
theorem invX_up_101 {g : GG} {ad : Nat → Nat} {S S1 : SS} {v : va_E} (hI : InvX g ad S) (e : S1 = va_up S 101 v) (hv : OKX_101 g ad v) : InvX g ad S1 := invX_up hI e hv
theorem invX_102 {g : GG} {ad : Nat → Nat} {S : SS} (hI : InvX g ad S) : OKX_102 g ad (S 102) := hI 102 (by decide)
theorem invX_up_102 {g : GG} {ad : Nat → Nat} {S S1 : SS} {v : va_E} (hI : InvX g ad S) (e : S1 = va_up S 102 v) (hv : OKX_102 g ad v) : InvX g ad S1 := invX_up hI e hv
theorem invX_103 {g : GG} {ad : Nat → Nat} {S : SS} (hI : InvX g ad S) : OKX_103 g ad (S 103) := hI 103 (by decide)
theorem invX_up_103 {g : GG} {ad : Nat → Nat} {S S1 : SS} {v : va_E} (hI : InvX g ad S) (e : S1 = va_up S 103 v) (hv : OKX_103 g ad v) : InvX g ad S1 := invX_up hI e hv
theorem invX_104 {g : GG} {ad : Nat → Nat} {S : SS} (hI : InvX g ad S) : OKX_104 g ad (S 104) := hI 104 (by decide)
theorem invX_up_104 {g : GG} {ad : Nat → Nat} {S S1 : SS} {v : va_E} (hI : InvX g ad S) (e : S1 = va_up S 104 v) (hv : OKX_104 g ad v) : InvX g ad S1 := invX_up hI e hv
theorem invX_105 {g : GG} {ad : Nat → Nat} {S : SS} (hI : InvX g ad S) : OKX_105 g ad (S 105) := hI 105 (by decide)
theorem invX_up_105 {g : GG} {ad : Nat → Nat} {S S1 : SS} {v : va_E} (hI : InvX g ad S) (e : S1 = va_up S 105 v) (hv : OKX_105 g ad v) : InvX g ad S1 := invX_up hI e hv
theorem invX_106 {g : GG} {ad : Nat → Nat} {S : SS} (hI : InvX g ad S) : OKX_106 g ad (S 106) := hI 106 (by decide)
theorem invX_up_106 {g : GG} {ad : Nat → Nat} {S S1 : SS} {v : va_E} (hI : InvX g ad S) (e : S1 = va_up S 106 v) (hv : OKX_106 g ad v) : InvX g ad S1 := invX_up hI e hv
theorem invX_107 {g : GG} {ad : Nat → Nat} {S : SS} (hI : InvX g ad S) : OKX_107 g ad (S 107) := hI 107 (by decide)
theorem invX_up_107 {g : GG} {ad : Nat → Nat} {S S1 : SS} {v : va_E} (hI : InvX g ad S) (e : S1 = va_up S 107 v) (hv : OKX_107 g ad v) : InvX g ad S1 := invX_up hI e hv
theorem invX_108 {g : GG} {ad : Nat → Nat} {S : SS} (hI : InvX g ad S) : OKX_108 g ad (S 108) := hI 108 (by decide)
theorem invX_up_108 {g : GG} {ad : Nat → Nat} {S S1 : SS} {v : va_E} (hI : InvX g ad S) (e : S1 = va_up S 108 v) (hv : OKX_108 g ad v) : InvX g ad S1 := invX_up hI e hv
theorem invX_109 {g : GG} {ad : Nat → Nat} {S : SS} (hI : InvX g ad S) : OKX_109 g ad (S 109) := hI 109 (by decide)
theorem invX_up_109 {g : GG} {ad : Nat → Nat} {S S1 : SS} {v : va_E} (hI : InvX g ad S) (e : S1 = va_up S 109 v) (hv : OKX_109 g ad v) : InvX g ad S1 := invX_up hI e hv
theorem invX_110 {g : GG} {ad : Nat → Nat} {S : SS} (hI : InvX g ad S) : OKX_110 g ad (S 110) := hI 110 (by decide)
theorem invX_up_110 {g : GG} {ad : Nat → Nat} {S S1 : SS} {v : va_E} (hI : InvX g ad S) (e : S1 = va_up S 110 v) (hv : OKX_110 g ad v) : InvX g ad S1 := invX_up hI e hv
theorem invX_111 {g : GG} {ad : Nat → Nat} {S : SS} (hI : InvX g ad S) : OKX_111 g ad (S 111) := hI 111 (by decide)
theorem invX_up_111 {g : GG} {ad : Nat → Nat} {S S1 : SS} {v : va_E} (hI : InvX g ad S) (e : S1 = va_up S 111 v) (hv : OKX_111 g ad v) : InvX g ad S1 := invX_up hI e hv
theorem invX_112 {g : GG} {ad : Nat → Nat} {S : SS} (hI : InvX g ad S) : OKX_112 g ad (S 112) := hI 112 (by decide)
theorem invX_up_112 {g : GG} {ad : Nat → Nat} {S S1 : SS} {v : va_E} (hI : InvX g ad S) (e : S1 = va_up S 112 v) (hv : OKX_112 g ad v) : InvX g ad S1 := invX_up hI e hv
theorem invX_113 {g : GG} {ad : Nat → Nat} {S : SS} (hI : InvX g ad S) : OKX_113 g ad (S 113) := hI 113 (by decide)
theorem invX_up_113 {g : GG} {ad : Nat → Nat} {S S1 : SS} {v : va_E} (hI : InvX g ad S) (e : S1 = va_up S 113 v) (hv : OKX_113 g ad v) : InvX g ad S1 := invX_up hI e hv
theorem invX_114 {g : GG} {ad : Nat → Nat} {S : SS} (hI : InvX g ad S) : OKX_114 g ad (S 114) := hI 114 (by decide)
theorem invX_up_114 {g : GG} {ad : Nat → Nat} {S S1 : SS} {v : va_E} (hI : InvX g ad S) (e : S1 = va_up S 114 v) (hv : OKX_114 g ad v) : InvX g ad S1 := invX_up hI e hv
theorem invX_115 {g : GG} {ad : Nat → Nat} {S : SS} (hI : InvX g ad S) : OKX_115 g ad (S 115) := hI 115 (by decide)
theorem invX_up_115 {g : GG} {ad : Nat → Nat} {S S1 : SS} {v : va_E} (hI : InvX g ad S) (e : S1 = va_up S 115 v) (hv : OKX_115 g ad v) : InvX g ad S1 := invX_up hI e hv
theorem invX_116 {g : GG} {ad : Nat → Nat} {S : SS} (hI : InvX g ad S) : OKX_116 g ad (S 116) := hI 116 (by decide)
theorem invX_up_116 {g : GG} {ad : Nat → Nat} {S S1 : SS} {v : va_E} (hI : InvX g ad S) (e : S1 = va_up S 116 v) (hv : OKX_116 g ad v) : InvX g ad S1 := invX_up hI e hv
theorem invX_117 {g : GG} {ad : Nat → Nat} {S : SS} (hI : InvX g ad S) : OKX_117 g ad (S 117) := hI 117 (by decide)
theorem invX_up_117 {g : GG} {ad : Nat → Nat} {S S1 : SS} {v : va_E} (hI : InvX g ad S) (e : S1 = va_up S 117 v) (hv : OKX_117 g ad v) : InvX g ad S1 := invX_up hI e hv
theorem invX_118 {g : GG} {ad : Nat → Nat} {S : SS} (hI : InvX g ad S) : OKX_118 g ad (S 118) := hI 118 (by decide)
theorem invX_up_118 {g : GG} {ad : Nat → Nat} {S S1 : SS} {v : va_E} (hI : InvX g ad S) (e : S1 = va_up S 118 v) (hv : OKX_118 g ad v) : InvX g ad S1 := invX_up hI e hv
theorem invX_119 {g : GG} {ad : Nat → Nat} {S : SS} (hI : InvX g ad S) : OKX_119 g ad (S 119) := hI 119 (by decide)
theorem invX_up_119 {g : GG} {ad : Nat → Nat} {S S1 : SS} {v : va_E} (hI : InvX g ad S) (e : S1 = va_up S 119 v) (hv : OKX_119 g ad v) : InvX g ad S1 := invX_up hI e hv
theorem invX_120 {g : GG} {ad : Nat → Nat} {S : SS} (hI : InvX g ad S) : OKX_120 g ad (S 120) := hI 120 (by decide)
theorem invX_up_120 {g : GG} {ad : Nat → Nat} {S S1 : SS} {v : va_E} (hI : InvX g ad S) (e : S1 = va_up S 120 v) (hv : OKX_120 g ad v) : InvX g ad S1 := invX_up hI e hv
theorem invX_121 {g : GG} {ad : Nat → Nat} {S : SS} (hI : InvX g ad S) : OKX_121 g ad (S 121) := hI 121 (by decide)
theorem invX_up_121 {g : GG} {ad : Nat → Nat} {S S1 : SS} {v : va_E} (hI : InvX g ad S) (e : S1 = va_up S 121 v) (hv : OKX_121 g ad v) : InvX g ad S1 := invX_up hI e hv
