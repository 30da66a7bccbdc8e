abbrev OKM_0 (g : GG) (ad : Nat → Nat) (e : va_E) : Prop := ∃ (v0 : Int32) (v6 : Int32) (v7 : Int32) (v8 : Int32) (v9 : Int32) (v10 : Int32) (v11 : Int64) (v12 : Int32) (v13 : Int32) (v14 : Int32) (v15 : Int32) (v26 : Int32) (v27 : Int32) (v29 : Int32) (v30 : Int32) (v31 : Int32) (v32 : Int32) (v33 : Int32) (v36 : Int32), e = .inr (12, [.int v0, .ref (ad 1), .ref (ad 2), .ref (ad 3), .ref (ad 4), .ref (ad 5), .int v6, .int v7, .int v8, .int v9, .int v10, .long v11, .int v12, .int v13, .int v14, .int v15, .ref (ad 6), .ref (ad 7), .ref (ad 8), .ref (ad 9), .ref (ad 10), .ref (ad 11), .ref (ad 12), .ref (ad 13), .ref (ad 14), .ref (ad 15), .int v26, .int v27, .ref (ad 16), .int v29, .int v30, .int v31, .int v32, .int v33, .ref (ad 17), .ref (ad 18), .int v36, .ref (ad 19)]) ∧ Bd v6 (0) (1200) ∧ Bd v7 (0) (1200) ∧ Bd v8 (0) (4) ∧ Bd v12 (0) (3) ∧ Bd v26 (0) (11) ∧ Bd v27 (-1) (400) ∧ Bd v29 (0) (2) ∧ Bd v30 (0) (11) ∧ Bd v31 (-1) (468)
abbrev OKM_1 (g : GG) (ad : Nat → Nat) (e : va_E) : Prop := ∃ f : Nat → Int32, e = .inl (g.2 0, 4, .inl f) ∧ ∀ j, Bd (f j) (-1) (3)
abbrev OKM_2 (g : GG) (ad : Nat → Nat) (e : va_E) : Prop := ∃ f : Nat → Int32, e = .inl (g.2 0, 4, .inl f) ∧ ∀ j, Bd (f j) (0) (60)
abbrev OKM_3 (g : GG) (ad : Nat → Nat) (e : va_E) : Prop := ∃ f : Nat → Int64, e = .inl (g.2 2, 240, .inr (.inl f))
abbrev OKM_4 (g : GG) (ad : Nat → Nat) (e : va_E) : Prop := ∃ f : Nat → Int64, e = .inl (g.2 2, 60, .inr (.inl f))
abbrev OKM_5 (g : GG) (ad : Nat → Nat) (e : va_E) : Prop := ∃ f : Nat → Int32, e = .inl (g.2 1, 1200, .inl f) ∧ ∀ j, Bd (f j) (-128) (127)
abbrev OKM_6 (g : GG) (ad : Nat → Nat) (e : va_E) : Prop := ∃ f : Nat → Int32, e = .inl (g.2 0, 5, .inl f) ∧ ∀ j, Bd (f j) (0) (40000)
abbrev OKM_7 (g : GG) (ad : Nat → Nat) (e : va_E) : Prop := ∃ f : Nat → Int32, e = .inl (g.2 0, 50, .inl f) ∧ (∀ j, j % 10 = 0 → Bd (f j) (0) (12)) ∧ (∀ j, j % 10 = 1 → Bd (f j) (0) (12)) ∧ (∀ j, j % 10 = 2 → Bd (f j) (0) (6)) ∧ (∀ j, j % 10 = 3 → Bd (f j) (0) (12)) ∧ (∀ j, j % 10 = 6 → Bd (f j) (0) (8)) ∧ (∀ j, j % 10 = 7 → Bd (f j) (0) (6)) ∧ (∀ j, j % 10 = 8 → Bd (f j) (0) (3)) ∧ (∀ j, j % 10 = 9 → Bd (f j) (0) (40))
abbrev OKM_8 (g : GG) (ad : Nat → Nat) (e : va_E) : Prop := ∃ f : Nat → Int32, e = .inl (g.2 0, 120, .inl f)
abbrev OKM_9 (g : GG) (ad : Nat → Nat) (e : va_E) : Prop := ∃ f : Nat → Int32, e = .inl (g.2 0, 120, .inl f) ∧ (∀ j, j % 3 = 1 → Bd (f j) (0) (11)) ∧ (∀ j, j % 3 = 2 → Bd (f j) (0) (99))
abbrev OKM_10 (g : GG) (ad : Nat → Nat) (e : va_E) : Prop := ∃ f : Nat → Int32, e = .inl (g.2 0, 120, .inl f)
abbrev OKM_11 (g : GG) (ad : Nat → Nat) (e : va_E) : Prop := ∃ f : Nat → Int32, e = .inl (g.2 0, 15, .inl f) ∧ ∀ j, Bd (f j) (0) (11)
abbrev OKM_12 (g : GG) (ad : Nat → Nat) (e : va_E) : Prop := ∃ f : Nat → Int32, e = .inl (g.2 0, 800, .inl f) ∧ (∀ j, j % 4 = 1 → Bd (f j) (0) (7)) ∧ (∀ j, j % 4 = 2 → Bd (f j) (0) (400))
abbrev OKM_13 (g : GG) (ad : Nat → Nat) (e : va_E) : Prop := ∃ f : Nat → Int32, e = .inl (g.2 3, 3, .inl f) ∧ ∀ j, Bd (f j) (0) (1)
abbrev OKM_14 (g : GG) (ad : Nat → Nat) (e : va_E) : Prop := ∃ f : Nat → Int32, e = .inl (g.2 0, 3, .inl f) ∧ ∀ j, Bd (f j) (0) (11)
abbrev OKM_15 (g : GG) (ad : Nat → Nat) (e : va_E) : Prop := ∃ f : Nat → Int32, e = .inl (g.2 0, 3208, .inl f)
abbrev OKM_16 (g : GG) (ad : Nat → Nat) (e : va_E) : Prop := ∃ f : Nat → Int32, e = .inl (g.2 0, 1212, .inl f) ∧ ∀ j, Bd (f j) (0) (100000)
abbrev OKM_17 (g : GG) (ad : Nat → Nat) (e : va_E) : Prop := ∃ f : Nat → Int32, e = .inl (g.2 0, 12, .inl f)
abbrev OKM_18 (g : GG) (ad : Nat → Nat) (e : va_E) : Prop := ∃ f : Nat → Int32, e = .inl (g.2 0, 3, .inl f)
abbrev OKM_19 (g : GG) (ad : Nat → Nat) (e : va_E) : Prop := ∃ f : Nat → Int32, e = .inl (g.2 0, 12, .inl f)
def OKMT_0 (g : GG) (ad : Nat → Nat) (i : Nat) (e : va_E) : Prop := match i with
  | 0 => OKM_0 g ad e
  | 1 => OKM_1 g ad e
  | 2 => OKM_2 g ad e
  | 3 => OKM_3 g ad e
  | 4 => OKM_4 g ad e
  | 5 => OKM_5 g ad e
  | 6 => OKM_6 g ad e
  | 7 => OKM_7 g ad e
  | 8 => OKM_8 g ad e
  | 9 => OKM_9 g ad e
  | _ => True
def OKMT_1 (g : GG) (ad : Nat → Nat) (i : Nat) (e : va_E) : Prop := match i with
  | 0 => OKM_10 g ad e
  | 1 => OKM_11 g ad e
  | 2 => OKM_12 g ad e
  | 3 => OKM_13 g ad e
  | 4 => OKM_14 g ad e
  | 5 => OKM_15 g ad e
  | 6 => OKM_16 g ad e
  | 7 => OKM_17 g ad e
  | 8 => OKM_18 g ad e
  | 9 => OKM_19 g ad e
  | _ => True
def OKM (g : GG) (ad : Nat → Nat) (i : Nat) (e : va_E) : Prop := match i / 10 with
  | 0 => OKMT_0 g ad (i % 10) e
  | 1 => OKMT_1 g ad (i % 10) e
  | _ => True
def InvM (g : GG) (ad : Nat → Nat) (S : SS) : Prop := ∀ i, i < 20 → OKM g ad i (S i)
theorem invM_up {g : GG} {ad : Nat → Nat} {S S1 : SS} {k : Nat} {v : va_E} (hI : InvM g ad S) (e : S1 = va_up S k v) (hv : OKM g ad k v) : InvM g ad S1 := fun i hi => by
  by_cases h : i = k
  · subst h; rw [e, va_up_self]; exact hv
  · rw [e, va_up_ne _ _ h]; exact hI i hi
theorem invM_0 {g : GG} {ad : Nat → Nat} {S : SS} (hI : InvM g ad S) : OKM_0 g ad (S 0) := hI 0 (by decide)
theorem invM_up_0 {g : GG} {ad : Nat → Nat} {S S1 : SS} {v : va_E} (hI : InvM g ad S) (e : S1 = va_up S 0 v) (hv : OKM_0 g ad v) : InvM g ad S1 := invM_up hI e hv
theorem invM_1 {g : GG} {ad : Nat → Nat} {S : SS} (hI : InvM g ad S) : OKM_1 g ad (S 1) := hI 1 (by decide)
theorem invM_up_1 {g : GG} {ad : Nat → Nat} {S S1 : SS} {v : va_E} (hI : InvM g ad S) (e : S1 = va_up S 1 v) (hv : OKM_1 g ad v) : InvM g ad S1 := invM_up hI e hv
theorem invM_2 {g : GG} {ad : Nat → Nat} {S : SS} (hI : InvM g ad S) : OKM_2 g ad (S 2) := hI 2 (by decide)
theorem invM_up_2 {g : GG} {ad : Nat → Nat} {S S1 : SS} {v : va_E} (hI : InvM g ad S) (e : S1 = va_up S 2 v) (hv : OKM_2 g ad v) : InvM g ad S1 := invM_up hI e hv
theorem invM_3 {g : GG} {ad : Nat → Nat} {S : SS} (hI : InvM g ad S) : OKM_3 g ad (S 3) := hI 3 (by decide)
theorem invM_up_3 {g : GG} {ad : Nat → Nat} {S S1 : SS} {v : va_E} (hI : InvM g ad S) (e : S1 = va_up S 3 v) (hv : OKM_3 g ad v) : InvM g ad S1 := invM_up hI e hv
theorem invM_4 {g : GG} {ad : Nat → Nat} {S : SS} (hI : InvM g ad S) : OKM_4 g ad (S 4) := hI 4 (by decide)
theorem invM_up_4 {g : GG} {ad : Nat → Nat} {S S1 : SS} {v : va_E} (hI : InvM g ad S) (e : S1 = va_up S 4 v) (hv : OKM_4 g ad v) : InvM g ad S1 := invM_up hI e hv
theorem invM_5 {g : GG} {ad : Nat → Nat} {S : SS} (hI : InvM g ad S) : OKM_5 g ad (S 5) := hI 5 (by decide)
theorem invM_up_5 {g : GG} {ad : Nat → Nat} {S S1 : SS} {v : va_E} (hI : InvM g ad S) (e : S1 = va_up S 5 v) (hv : OKM_5 g ad v) : InvM g ad S1 := invM_up hI e hv
theorem invM_6 {g : GG} {ad : Nat → Nat} {S : SS} (hI : InvM g ad S) : OKM_6 g ad (S 6) := hI 6 (by decide)
theorem invM_up_6 {g : GG} {ad : Nat → Nat} {S S1 : SS} {v : va_E} (hI : InvM g ad S) (e : S1 = va_up S 6 v) (hv : OKM_6 g ad v) : InvM g ad S1 := invM_up hI e hv
theorem invM_7 {g : GG} {ad : Nat → Nat} {S : SS} (hI : InvM g ad S) : OKM_7 g ad (S 7) := hI 7 (by decide)
theorem invM_up_7 {g : GG} {ad : Nat → Nat} {S S1 : SS} {v : va_E} (hI : InvM g ad S) (e : S1 = va_up S 7 v) (hv : OKM_7 g ad v) : InvM g ad S1 := invM_up hI e hv
theorem invM_8 {g : GG} {ad : Nat → Nat} {S : SS} (hI : InvM g ad S) : OKM_8 g ad (S 8) := hI 8 (by decide)
theorem invM_up_8 {g : GG} {ad : Nat → Nat} {S S1 : SS} {v : va_E} (hI : InvM g ad S) (e : S1 = va_up S 8 v) (hv : OKM_8 g ad v) : InvM g ad S1 := invM_up hI e hv
theorem invM_9 {g : GG} {ad : Nat → Nat} {S : SS} (hI : InvM g ad S) : OKM_9 g ad (S 9) := hI 9 (by decide)
theorem invM_up_9 {g : GG} {ad : Nat → Nat} {S S1 : SS} {v : va_E} (hI : InvM g ad S) (e : S1 = va_up S 9 v) (hv : OKM_9 g ad v) : InvM g ad S1 := invM_up hI e hv
theorem invM_10 {g : GG} {ad : Nat → Nat} {S : SS} (hI : InvM g ad S) : OKM_10 g ad (S 10) := hI 10 (by decide)
theorem invM_up_10 {g : GG} {ad : Nat → Nat} {S S1 : SS} {v : va_E} (hI : InvM g ad S) (e : S1 = va_up S 10 v) (hv : OKM_10 g ad v) : InvM g ad S1 := invM_up hI e hv
theorem invM_11 {g : GG} {ad : Nat → Nat} {S : SS} (hI : InvM g ad S) : OKM_11 g ad (S 11) := hI 11 (by decide)
theorem invM_up_11 {g : GG} {ad : Nat → Nat} {S S1 : SS} {v : va_E} (hI : InvM g ad S) (e : S1 = va_up S 11 v) (hv : OKM_11 g ad v) : InvM g ad S1 := invM_up hI e hv
theorem invM_12 {g : GG} {ad : Nat → Nat} {S : SS} (hI : InvM g ad S) : OKM_12 g ad (S 12) := hI 12 (by decide)
theorem invM_up_12 {g : GG} {ad : Nat → Nat} {S S1 : SS} {v : va_E} (hI : InvM g ad S) (e : S1 = va_up S 12 v) (hv : OKM_12 g ad v) : InvM g ad S1 := invM_up hI e hv
theorem invM_13 {g : GG} {ad : Nat → Nat} {S : SS} (hI : InvM g ad S) : OKM_13 g ad (S 13) := hI 13 (by decide)
theorem invM_up_13 {g : GG} {ad : Nat → Nat} {S S1 : SS} {v : va_E} (hI : InvM g ad S) (e : S1 = va_up S 13 v) (hv : OKM_13 g ad v) : InvM g ad S1 := invM_up hI e hv
theorem invM_14 {g : GG} {ad : Nat → Nat} {S : SS} (hI : InvM g ad S) : OKM_14 g ad (S 14) := hI 14 (by decide)
theorem invM_up_14 {g : GG} {ad : Nat → Nat} {S S1 : SS} {v : va_E} (hI : InvM g ad S) (e : S1 = va_up S 14 v) (hv : OKM_14 g ad v) : InvM g ad S1 := invM_up hI e hv
theorem invM_15 {g : GG} {ad : Nat → Nat} {S : SS} (hI : InvM g ad S) : OKM_15 g ad (S 15) := hI 15 (by decide)
theorem invM_up_15 {g : GG} {ad : Nat → Nat} {S S1 : SS} {v : va_E} (hI : InvM g ad S) (e : S1 = va_up S 15 v) (hv : OKM_15 g ad v) : InvM g ad S1 := invM_up hI e hv
theorem invM_16 {g : GG} {ad : Nat → Nat} {S : SS} (hI : InvM g ad S) : OKM_16 g ad (S 16) := hI 16 (by decide)
theorem invM_up_16 {g : GG} {ad : Nat → Nat} {S S1 : SS} {v : va_E} (hI : InvM g ad S) (e : S1 = va_up S 16 v) (hv : OKM_16 g ad v) : InvM g ad S1 := invM_up hI e hv
theorem invM_17 {g : GG} {ad : Nat → Nat} {S : SS} (hI : InvM g ad S) : OKM_17 g ad (S 17) := hI 17 (by decide)
theorem invM_up_17 {g : GG} {ad : Nat → Nat} {S S1 : SS} {v : va_E} (hI : InvM g ad S) (e : S1 = va_up S 17 v) (hv : OKM_17 g ad v) : InvM g ad S1 := invM_up hI e hv
theorem invM_18 {g : GG} {ad : Nat → Nat} {S : SS} (hI : InvM g ad S) : OKM_18 g ad (S 18) := hI 18 (by decide)
theorem invM_up_18 {g : GG} {ad : Nat → Nat} {S S1 : SS} {v : va_E} (hI : InvM g ad S) (e : S1 = va_up S 18 v) (hv : OKM_18 g ad v) : InvM g ad S1 := invM_up hI e hv
theorem invM_19 {g : GG} {ad : Nat → Nat} {S : SS} (hI : InvM g ad S) : OKM_19 g ad (S 19) := hI 19 (by decide)
theorem invM_up_19 {g : GG} {ad : Nat → Nat} {S S1 : SS} {v : va_E} (hI : InvM g ad S) (e : S1 = va_up S 19 v) (hv : OKM_19 g ad v) : InvM g ad S1 := invM_up hI e hv
