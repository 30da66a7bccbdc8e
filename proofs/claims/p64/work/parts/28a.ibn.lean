/-! the reference's phases: no phase lasts a whole round -/
section PHX
variable {e7 e8 e10 : va_E}
theorem fRound_i (h1 : Bd (arr e7 1) 1 12) (h2 : Bd (arr e7 2) 0 6) (h3 : Bd (arr e7 3) 1 12) : (fRound e7 e8 e10).toInt = (arr e7 1).toInt + 2 * (arr e7 2).toInt + (arr e7 3).toInt := by
  unfold fRound
  have q2 : (2 : Int32).toInt = 2 := by decide
  have m : ((2 : Int32) * arr e7 2).toInt = 2 * (arr e7 2).toInt := by
    rw [Int32.toInt_mul, q2, ib_bm (by omega) (by omega)]
  have a1 : (arr e7 1 + (2 : Int32) * arr e7 2).toInt = (arr e7 1).toInt + 2 * (arr e7 2).toInt := by
    rw [Int32.toInt_add, m, ib_bm (by omega) (by omega)]
  rw [Int32.toInt_add, a1, ib_bm (by omega) (by omega)]
theorem ph_rem (h1 : Bd (arr e7 1) 1 12) (h2 : Bd (arr e7 2) 0 6) (h3 : Bd (arr e7 3) 1 12) {a : Int32} (ha : 0 ≤ a.toInt) : (a - a / fRound e7 e8 e10 * fRound e7 e8 e10).toInt = a.toInt % ((arr e7 1).toInt + 2 * (arr e7 2).toInt + (arr e7 3).toInt) := by
  have hr := fRound_i (e8 := e8) (e10 := e10) h1 h2 h3
  have := ib_rem (x := a) (y := fRound e7 e8 e10) rfl (by rw [hr]; omega)
  rw [this, hr, Int.tmod_eq_emod_of_nonneg ha]
theorem ph_0 (h1 : Bd (arr e7 1) 1 12) (h2 : Bd (arr e7 2) 0 6) (h3 : Bd (arr e7 3) 1 12) {a : Int32} (ha : 0 ≤ a.toInt) (h : a.toInt % ((arr e7 1).toInt + 2 * (arr e7 2).toInt + (arr e7 3).toInt) = 0) : fPhase e7 e8 e10 a = 0 := by
  have hx := ph_rem (e8 := e8) (e10 := e10) h1 h2 h3 ha
  rw [h] at hx
  have z : (0 : Int32).toInt = 0 := by decide
  have k1 : (0 : Int32) ≤ a - a / fRound e7 e8 e10 * fRound e7 e8 e10 := Int32.le_iff_toInt_le.mpr (by rw [hx, z]; omega)
  have k2 : ¬ arr e7 1 ≤ a - a / fRound e7 e8 e10 * fRound e7 e8 e10 := fun q => by have := Int32.le_iff_toInt_le.mp q; rw [hx] at this; omega
  unfold fPhase
  rw [if_pos k1, if_neg k2]
theorem ph_2 (h1 : Bd (arr e7 1) 1 12) (h2 : Bd (arr e7 2) 0 6) (h3 : Bd (arr e7 3) 1 12) {a : Int32} (ha : 0 ≤ a.toInt) (h : a.toInt % ((arr e7 1).toInt + 2 * (arr e7 2).toInt + (arr e7 3).toInt) = (arr e7 1).toInt + (arr e7 2).toInt) : fPhase e7 e8 e10 a = 2 := by
  have hx := ph_rem (e8 := e8) (e10 := e10) h1 h2 h3 ha
  rw [h] at hx
  have z : (0 : Int32).toInt = 0 := by decide
  have s2 : (arr e7 1 + arr e7 2).toInt = (arr e7 1).toInt + (arr e7 2).toInt := by rw [Int32.toInt_add, ib_bm (by omega) (by omega)]
  have s3 : (arr e7 1 + arr e7 2 + arr e7 3).toInt = (arr e7 1).toInt + (arr e7 2).toInt + (arr e7 3).toInt := by rw [Int32.toInt_add, s2, ib_bm (by omega) (by omega)]
  have k1 : (0 : Int32) ≤ a - a / fRound e7 e8 e10 * fRound e7 e8 e10 := Int32.le_iff_toInt_le.mpr (by rw [hx, z]; omega)
  have k2 : arr e7 1 ≤ a - a / fRound e7 e8 e10 * fRound e7 e8 e10 := Int32.le_iff_toInt_le.mpr (by rw [hx]; omega)
  have k3 : arr e7 1 + arr e7 2 ≤ a - a / fRound e7 e8 e10 * fRound e7 e8 e10 := Int32.le_iff_toInt_le.mpr (by rw [hx, s2]; omega)
  have k4 : ¬ arr e7 1 + arr e7 2 + arr e7 3 ≤ a - a / fRound e7 e8 e10 * fRound e7 e8 e10 := fun q => by have := Int32.le_iff_toInt_le.mp q; rw [hx, s3] at this; omega
  unfold fPhase
  rw [if_pos k1, if_pos k2, if_pos k3, if_neg k4]
/-- so many HOURS from one on are of its PHASE -/
def LSp (e7 e8 e10 : va_E) (a n : Int32) : Prop := ∀ q : Nat, (q : Int) < n.toInt → fPhase e7 e8 e10 (a + Int32.ofNat q) = fPhase e7 e8 e10 a
theorem ls_1 {a : Int32} : LSp e7 e8 e10 a 1 := fun q h => by
  have z : (1 : Int32).toInt = 1 := by decide
  rw [z] at h
  have : q = 0 := by omega
  subst this
  show fPhase e7 e8 e10 (a + 0) = _
  rw [Int32.add_zero]
theorem ls_s {a n n' z r1 r2 : Int32} (H : LSp e7 e8 e10 a n) (hn : 0 ≤ n.toInt) (t : n'.toInt = n.toInt + 1) (ez : z = a + n) (f1 : r1 = fPhase e7 e8 e10 z) (f2 : r2 = fPhase e7 e8 e10 a) (he : r1 = r2) : LSp e7 e8 e10 a n' := fun q h => by
  by_cases hq : (q : Int) < n.toInt
  · exact H q hq
  · have e : (q : Int) = n.toInt := by omega
    have hr := ib_rng n
    have en : Int32.ofNat q = n := Int32.toInt_inj.mp ((nI_toInt (by omega)).trans e)
    rw [en, ← ez, ← f1, ← f2, he]
theorem ls_bd {a n : Int32} (h1 : Bd (arr e7 1) 1 12) (h2 : Bd (arr e7 2) 0 6) (h3 : Bd (arr e7 3) 1 12) (ha : Bd a 0 2000000000) (H : LSp e7 e8 e10 a n) : n.toInt ≤ 36 := by
  rcases Int.lt_or_le 36 n.toInt with hn | hn
  · exfalso
    generalize hR : (arr e7 1).toInt + 2 * (arr e7 2).toInt + (arr e7 3).toInt = R at *
    have hR2 : 2 ≤ R ∧ R ≤ 36 := by omega
    have hm := Int.emod_nonneg a.toInt (show R ≠ 0 by omega)
    have hl := Int.emod_lt_of_pos a.toInt (show 0 < R by omega)
    have key : ∀ m : Int, 0 ≤ m → m < 37 → (a + Int32.ofNat m.toNat).toInt = a.toInt + m := fun m h0 h4 => by
      have e : (Int32.ofNat m.toNat).toInt = m := (nI_toInt (by omega)).trans (by omega)
      rw [Int32.toInt_add, e, ib_bm (by omega) (by omega)]
    have dm := Int.emod_add_mul_ediv a.toInt R
    -- the first HOUR of a round
    have p0 : fPhase e7 e8 e10 a = 0 := by
      by_cases hz : a.toInt % R = 0
      · exact ph_0 h1 h2 h3 ha.1 (by rw [hR]; exact hz)
      · have hk := key (R - a.toInt % R) (by omega) (by omega)
        rw [← H (R - a.toInt % R).toNat (by omega)]
        refine ph_0 h1 h2 h3 (by omega) ?_
        rw [hR, hk]
        have : a.toInt + (R - a.toInt % R) = R * (a.toInt / R + 1) := by
          rw [Int.mul_add, Int.mul_one]; omega
        rw [this, Int.mul_emod_right]
    have p2 : fPhase e7 e8 e10 a = 2 := by
      by_cases hz : a.toInt % R ≤ (arr e7 1).toInt + (arr e7 2).toInt
      · have hk := key ((arr e7 1).toInt + (arr e7 2).toInt - a.toInt % R) (by omega) (by omega)
        rw [← H ((arr e7 1).toInt + (arr e7 2).toInt - a.toInt % R).toNat (by omega)]
        refine ph_2 h1 h2 h3 (by omega) ?_
        rw [hR, hk]
        have : a.toInt + ((arr e7 1).toInt + (arr e7 2).toInt - a.toInt % R) = (arr e7 1).toInt + (arr e7 2).toInt + R * (a.toInt / R) := by omega
        rw [this, Int.add_mul_emod_self_left, Int.emod_eq_of_lt (by omega) (by omega)]
      · have hk := key (R - a.toInt % R + (arr e7 1).toInt + (arr e7 2).toInt) (by omega) (by omega)
        rw [← H (R - a.toInt % R + (arr e7 1).toInt + (arr e7 2).toInt).toNat (by omega)]
        refine ph_2 h1 h2 h3 (by omega) ?_
        rw [hR, hk]
        have : a.toInt + (R - a.toInt % R + (arr e7 1).toInt + (arr e7 2).toInt) = (arr e7 1).toInt + (arr e7 2).toInt + R * (a.toInt / R + 1) := by
          rw [Int.mul_add, Int.mul_one]; omega
        rw [this, Int.add_mul_emod_self_left, Int.emod_eq_of_lt (by omega) (by omega)]
    rw [p0] at p2
    exact absurd p2 (by decide)
  · exact hn
end PHX
section PUX
variable {e7 e8 e10 e16 e16' : va_E}
theorem fHeld_bd (h0 : Bd (arr e7 0) 1 12) (a : Int32) : 0 ≤ (fHeld e7 e8 e10 a).toInt ∧ (fHeld e7 e8 e10 a).toInt < (arr e7 0).toInt := by
  have z : (0 : Int32).toInt = 0 := by decide
  unfold fHeld
  split
  · rename_i h
    have h1 := Int32.le_iff_toInt_le.mp h
    rw [z] at h1
    split
    · rename_i h2; exact ⟨h1, Int32.lt_iff_toInt_lt.mp h2⟩
    · have o : (1 : Int32).toInt = 1 := by decide
      have : (arr e7 0 - 1).toInt = (arr e7 0).toInt - 1 := by rw [Int32.toInt_sub, o, ib_bm (by omega) (by omega)]
      rw [this]
      exact ⟨by omega, by omega⟩
  · rw [z]; exact ⟨by omega, by omega⟩
theorem fOn_bd (h0 : Bd (arr e7 0) 1 12) (a b : Int32) : 0 ≤ (fOn e7 e8 e10 a b).toInt ∧ (fOn e7 e8 e10 a b).toInt < (arr e7 0).toInt := by
  unfold fOn
  split
  · exact fHeld_bd h0 _
  · split
    · exact fHeld_bd h0 _
    · exact fHeld_bd h0 _
theorem pu_ix {h x : Int32} (hh : Bd h 0 99) (ht : Bd x 0 11) : ((12 : Int32) * (h + 1) + x).toNatClampNeg = 12 * (h.toInt.toNat + 1) + x.toInt.toNat := by
  have o : (1 : Int32).toInt = 1 := by decide
  have w : (12 : Int32).toInt = 12 := by decide
  have a1 : (h + 1).toInt = h.toInt + 1 := by rw [Int32.toInt_add, o, ib_bm (by omega) (by omega)]
  have a2 : ((12 : Int32) * (h + 1)).toInt = 12 * (h.toInt + 1) := by rw [Int32.toInt_mul, w, a1, ib_bm (by omega) (by omega)]
  have a3 : ((12 : Int32) * (h + 1) + x).toInt = 12 * (h.toInt + 1) + x.toInt := by rw [Int32.toInt_add, a2, ib_bm (by omega) (by omega)]
  show ((12 : Int32) * (h + 1) + x).toInt.toNat = _
  rw [a3]
  omega
def stp (b p : Int32) : Int32 := if b ≤ p then b else p
def best3 (e7 e8 e10 e16 : va_E) (h c p : Int32) : Int32 := stp (stp (stp 100000 (fPush e7 e8 e10 e16 h c 0 p)) (fPush e7 e8 e10 e16 h c 1 p)) (fPush e7 e8 e10 e16 h c 2 p)
theorem fPush_cg (h0 : Bd (arr e7 0) 1 12) {h c w p : Int32} (hh : Bd h 0 99) (hq : ∀ i, 12 * (h.toInt.toNat + 1) ≤ i → arr e16 i = arr e16' i) : fPush e7 e8 e10 e16 h c w p = fPush e7 e8 e10 e16' h c w p := by
  have hb := fOn_bd (e8 := e8) (e10 := e10) h0 (fShoved e7 e8 e10 c w) h
  have E : arr e16 ((12 : Int32) * (h + 1) + fOn e7 e8 e10 (fShoved e7 e8 e10 c w) h).toNatClampNeg = arr e16' ((12 : Int32) * (h + 1) + fOn e7 e8 e10 (fShoved e7 e8 e10 c w) h).toNatClampNeg := hq _ (by rw [pu_ix hh ⟨hb.1, by omega⟩]; omega)
  unfold fPush
  rw [E]
theorem best3_cg (h0 : Bd (arr e7 0) 1 12) {h c p : Int32} (hh : Bd h 0 99) (hq : ∀ i, 12 * (h.toInt.toNat + 1) ≤ i → arr e16 i = arr e16' i) : best3 e7 e8 e10 e16 h c p = best3 e7 e8 e10 e16' h c p := by
  unfold best3
  rw [fPush_cg h0 hh hq, fPush_cg (w := 1) h0 hh hq, fPush_cg (w := 2) h0 hh hq]
def TBp (e7 e8 e10 e16 : va_E) (p : Int32) (lo : Int) : Prop := (∀ c : Int32, 0 ≤ c.toInt → c.toInt < (arr e7 0).toInt → arr e16 (1200 + c.toInt.toNat) = 100000) ∧ ∀ h c : Int32, lo < h.toInt → 0 ≤ h.toInt → h.toInt ≤ 99 → 0 ≤ c.toInt → c.toInt < (arr e7 0).toInt → arr e16 (12 * h.toInt.toNat + c.toInt.toNat) = best3 e7 e8 e10 e16 h c p
def TBr (e7 e8 e10 e16 : va_E) (p h : Int32) (n : Int) : Prop := ∀ c : Int32, 0 ≤ c.toInt → c.toInt < n → arr e16 (12 * h.toInt.toNat + c.toInt.toNat) = best3 e7 e8 e10 e16 h c p
def TB2 (e16 : va_E) (n : Int) : Prop := ∀ c : Int32, 0 ≤ c.toInt → c.toInt < n → arr e16 (1200 + c.toInt.toNat) = 100000
theorem tb_0 {n : Int} (h : n ≤ 0) : TB2 e16 n := fun c h0 h1 => by omega
theorem tb_2 {n n' : Int} {z x : Int32} {t t' : ClassId} {m : Nat} {f : Nat → Int32} (H : TB2 e16 n) (c0 : e16 = .inl (t, m, .inl f)) (c1 : e16' = .inl (t', m, .inl (upd f z.toNatClampNeg 100000))) (hx : x.toInt = n) (h0 : 0 ≤ x.toInt) (tz : z.toInt = 1200 + x.toInt) (hn : n' = n + 1) : TB2 e16' n' := fun c q0 q1 => by
  have hz : z.toNatClampNeg = z.toInt.toNat := rfl
  rw [arr_of c1]
  by_cases e : c.toInt = x.toInt
  · rw [show 1200 + c.toInt.toNat = z.toNatClampNeg by omega, upd_s]
  · rw [upd_o (by omega), ← arr_of c0]
    exact H c q0 (by omega)
theorem tb_e {p : Int32} {n lo : Int} (H : TB2 e16 n) (hn : (arr e7 0).toInt ≤ n) (hl : 99 ≤ lo) : TBp e7 e8 e10 e16 p lo := ⟨fun c h0 h1 => H c h0 (by omega), fun h c h1 _ h2 => by omega⟩
theorem tb_r0 {p h : Int32} {n : Int} (hn : n ≤ 0) : TBr e7 e8 e10 e16 p h n := fun c h0 h1 => by omega
/-- the best of three is put at its place -/
theorem tb_s {p h x z b : Int32} {lo n n' : Int} {t t' : ClassId} {m : Nat} {f : Nat → Int32} (h0 : Bd (arr e7 0) 1 12) (H : TBp e7 e8 e10 e16 p lo) (R : TBr e7 e8 e10 e16 p h n) (c0 : e16 = .inl (t, m, .inl f)) (c1 : e16' = .inl (t', m, .inl (upd f z.toNatClampNeg b))) (hb : b = best3 e7 e8 e10 e16 h x p) (hh : Bd h 0 99) (hx : Bd x 0 11) (hl : lo = h.toInt) (hn : n = x.toInt) (tz : z.toInt = 12 * h.toInt + x.toInt) (hn' : n' = n + 1) : TBp e7 e8 e10 e16' p lo ∧ TBr e7 e8 e10 e16' p h n' := by
  have hz : z.toNatClampNeg = z.toInt.toNat := rfl
  have hA : ∀ i, i ≠ z.toNatClampNeg → arr e16' i = arr e16 i := fun i hi => by rw [arr_of c1, arr_of c0, upd_o hi]
  have hq : ∀ h' : Int32, h.toInt ≤ h'.toInt → ∀ i, 12 * (h'.toInt.toNat + 1) ≤ i → arr e16 i = arr e16' i := fun h' hle i hi => (hA i (by omega)).symm
  refine ⟨⟨fun c q0 q1 => ?_, fun h' c q1 qz q2 q3 q4 => ?_⟩, fun c q0 q1 => ?_⟩
  · rw [hA _ (by omega)]; exact H.1 c q0 q1
  · rw [hA _ (by omega), ← best3_cg h0 (h := h') ⟨qz, q2⟩ (hq h' (by omega))]
    exact H.2 h' c q1 qz q2 q3 q4
  · by_cases e : c.toInt = x.toInt
    · have ec : c = x := Int32.toInt_inj.mp e
      subst ec
      rw [show 12 * h.toInt.toNat + c.toInt.toNat = z.toNatClampNeg by omega, arr_of c1, upd_s, hb]
      exact best3_cg h0 hh (hq h (by omega))
    · rw [hA _ (by omega), ← best3_cg h0 hh (hq h (by omega))]
      exact R c q0 (by omega)
theorem tb_d {p h : Int32} {lo lo' n : Int} (H : TBp e7 e8 e10 e16 p lo) (R : TBr e7 e8 e10 e16 p h n) (hn : (arr e7 0).toInt ≤ n) (hl : lo = h.toInt) (hl' : lo' = lo - 1) : TBp e7 e8 e10 e16 p lo' := ⟨H.1, fun h' c q1 qz q2 q3 q4 => by
  by_cases e : h'.toInt = h.toInt
  · have eh : h' = h := Int32.toInt_inj.mp e
    subst eh
    exact R c q3 (by omega)
  · exact H.2 h' c (by omega) qz q2 q3 q4⟩
theorem tb_tr {f7 f8 f10 f16 : va_E} {p : Int32} {lo : Int} (H : TBp e7 e8 e10 e16 p lo) (q7 : f7 = e7) (q8 : f8 = e8) (q10 : f10 = e10) (q16 : f16 = e16) : TBp f7 f8 f10 f16 p lo := by rw [q7, q8, q10, q16]; exact H
theorem stp_t {b p : Int32} (h : b ≤ p) : stp b p = b := by unfold stp; rw [if_pos h]
theorem stp_f {b p q : Int32} (h : ¬ b ≤ p) (e : q = p) : stp b p = q := by unfold stp; rw [if_neg h, e]
theorem stp_c {b p t : Int32} (h : t = stp b p) (n : p.toInt ≠ t.toInt) : t = b := by
  by_cases q : b ≤ p
  · rw [h, stp_t q]
  · exact absurd (by rw [h, stp_f q rfl]) n
theorem best3_of {h c p r0 r1 r2 b0 b1 b2 : Int32} (f0 : r0 = fPush e7 e8 e10 e16 h c 0 p) (f1 : r1 = fPush e7 e8 e10 e16 h c 1 p) (f2 : r2 = fPush e7 e8 e10 e16 h c 2 p) (s0 : stp 100000 r0 = b0) (s1 : stp b0 r1 = b1) (s2 : stp b1 r2 = b2) : b2 = best3 e7 e8 e10 e16 h c p := by
  unfold best3
  rw [← f0, ← f1, ← f2, s0, s1, s2]
/-- from the table: where a push leads is not FAR -/
theorem po_w (h0 : Bd (arr e7 0) 1 12) (hT : ∀ i, Bd (arr e16 i) 0 100000) {h c p w rs q rb r t : Int32} (hh : Bd h 0 99) (hw : ¬ w = 0) (es : rs = fShoved e7 e8 e10 c w) (eo : q = fOn e7 e8 e10 rs h) (eb : rb = fBeach e7 e8 e10 q) (hb : Bd rb 0 0) (er : r = fPush e7 e8 e10 e16 h c w p) (het : r.toInt = t.toInt) (ht : t.toInt < 100000) : (arr e16 (12 * (h.toInt.toNat + 1) + q.toInt.toNat)).toInt < 100000 := by
  have hbo := fOn_bd (e8 := e8) (e10 := e10) h0 rs h
  have hb0 : fBeach e7 e8 e10 (fOn e7 e8 e10 (fShoved e7 e8 e10 c w) h) = 0 := by
    rw [← es, ← eo, ← eb]
    exact Int32.toInt_inj.mp ((Int.le_antisymm hb.2 hb.1).trans (by decide))
  have e1 : r = 1 + arr e16 ((12 : Int32) * (h + 1) + fOn e7 e8 e10 (fShoved e7 e8 e10 c w) h).toNatClampNeg := by
    rw [er]
    unfold fPush
    rw [if_neg hw, if_pos hb0]
  rw [← es, ← eo] at e1
  rw [← eo] at hbo
  rw [pu_ix hh ⟨hbo.1, by omega⟩] at e1
  have o : (1 : Int32).toInt = 1 := by decide
  have hTi := hT (12 * (h.toInt.toNat + 1) + q.toInt.toNat)
  have : r.toInt = 1 + (arr e16 (12 * (h.toInt.toNat + 1) + q.toInt.toNat)).toInt := by rw [e1, Int32.toInt_add, o, ib_bm (by omega) (by omega)]
  omega
theorem po_0 (h0 : Bd (arr e7 0) 1 12) {h c p rs q rb t r1 r2 : Int32} (hh : Bd h 0 99) (es : rs = fShoved e7 e8 e10 c 0) (eo : q = fOn e7 e8 e10 rs h) (eb : rb = fBeach e7 e8 e10 q) (hb : Bd rb 0 0) (e1 : r1 = fPush e7 e8 e10 e16 h c 1 p) (e2 : r2 = fPush e7 e8 e10 e16 h c 2 p) (n1 : r1.toInt ≠ t.toInt) (n2 : r2.toInt ≠ t.toInt) (et : t = best3 e7 e8 e10 e16 h c p) (ht : t.toInt < 100000) : (arr e16 (12 * (h.toInt.toNat + 1) + q.toInt.toNat)).toInt < 100000 := by
  have hbo := fOn_bd (e8 := e8) (e10 := e10) h0 rs h
  have hb0 : fBeach e7 e8 e10 (fOn e7 e8 e10 (fShoved e7 e8 e10 c 0) h) = 0 := by
    rw [← es, ← eo, ← eb]
    exact Int32.toInt_inj.mp ((Int.le_antisymm hb.2 hb.1).trans (by decide))
  have p0 : fPush e7 e8 e10 e16 h c 0 p = 0 + arr e16 ((12 : Int32) * (h + 1) + fOn e7 e8 e10 (fShoved e7 e8 e10 c 0) h).toNatClampNeg := by
    unfold fPush
    rw [if_pos rfl, if_pos hb0]
  rw [← es, ← eo, Int32.zero_add] at p0
  rw [← eo] at hbo
  rw [pu_ix hh ⟨hbo.1, by omega⟩] at p0
  have far : (100000 : Int32).toInt = 100000 := by decide
  have e3 : t = fPush e7 e8 e10 e16 h c 0 p := by
    unfold best3 at et
    rw [← e1, ← e2] at et
    have s1 := stp_c (stp_c et n2) n1
    unfold stp at s1
    split at s1
    · rw [s1, far] at ht; omega
    · exact s1
  rw [← p0, ← e3]
  exact ht
theorem po_b {h c p : Int32} (H : TBp e7 e8 e10 e16 p (-1)) (hc : 0 ≤ c.toInt) (hn : c.toInt < (arr e7 0).toInt) (hh : Bd h 0 100) (ht : (arr e16 (12 * h.toInt.toNat + c.toInt.toNat)).toInt < 100000) : h.toInt ≤ 99 := by
  rcases Int.lt_or_le 99 h.toInt with q | q
  · exfalso
    have e := H.1 c hc hn
    rw [show 12 * h.toInt.toNat + c.toInt.toNat = 1200 + c.toInt.toNat by omega, e] at ht
    exact absurd ht (by decide)
  · exact q
end PUX
theorem mad12 {h c : Int32} (hh : Bd h 0 99) (hc : Bd c 0 11) : ((12 : Int32) * h + c).toInt = 12 * h.toInt + c.toInt := by
  have w : (12 : Int32).toInt = 12 := by decide
  have a : ((12 : Int32) * h).toInt = 12 * h.toInt := by rw [Int32.toInt_mul, w, ib_bm (by omega) (by omega)]
  rw [Int32.toInt_add, a, ib_bm (by omega) (by omega)]
