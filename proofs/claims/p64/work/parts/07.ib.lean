/-! bounds of numbers -/
abbrev Bd (x : Int32) (a b : Int) : Prop := a ≤ x.toInt ∧ x.toInt ≤ b
abbrev BdL (x : Int64) (a b : Int) : Prop := a ≤ x.toInt ∧ x.toInt ≤ b
abbrev mnI : Int := -2147483648
abbrev mxI : Int := 2147483647
theorem ib_rng (x : Int32) : -2147483648 ≤ x.toInt ∧ x.toInt < 2147483648 := by
  have h1 := Int32.le_toInt x
  have h2 := Int32.toInt_lt x
  omega
theorem ib_full (x : Int32) : Bd x (-2147483648) 2147483647 := by have := ib_rng x; exact ⟨this.1, by omega⟩
theorem ib_rngL (x : Int64) : -9223372036854775808 ≤ x.toInt ∧ x.toInt < 9223372036854775808 := by
  have h1 := Int64.le_toInt x
  have h2 := Int64.toInt_lt x
  omega
theorem ib_fullL (x : Int64) : BdL x (-9223372036854775808) 9223372036854775807 := by have := ib_rngL x; exact ⟨this.1, by omega⟩
theorem ib_bm {z : Int} (h1 : -2147483648 ≤ z) (h2 : z ≤ 2147483647) : z.bmod (2 ^ 32) = z := by
  rw [Int.bmod_eq_of_le (by omega) (by omega)]
theorem ib_bmL {z : Int} (h1 : -9223372036854775808 ≤ z) (h2 : z ≤ 9223372036854775807) : z.bmod (2 ^ 64) = z := by
  rw [Int.bmod_eq_of_le (by omega) (by omega)]
theorem ib_wk {x : Int32} {a b c d : Int} (h : Bd x a b) (h1 : c ≤ a) (h2 : b ≤ d) : Bd x c d := ⟨Int.le_trans h1 h.1, Int.le_trans h.2 h2⟩
theorem ib_wkL {x : Int64} {a b c d : Int} (h : BdL x a b) (h1 : c ≤ a) (h2 : b ≤ d) : BdL x c d := ⟨Int.le_trans h1 h.1, Int.le_trans h.2 h2⟩
/-- a number with its exact value where nothing overflows -/
theorem ib_add {x y z : Int32} {a b c d : Int} (e : z = x + y) (hx : Bd x a b) (hy : Bd y c d) (h1 : -2147483648 ≤ a + c) (h2 : b + d ≤ 2147483647) : z.toInt = x.toInt + y.toInt := by
  rw [e, Int32.toInt_add, ib_bm (by omega) (by omega)]
theorem ib_sub {x y z : Int32} {a b c d : Int} (e : z = x - y) (hx : Bd x a b) (hy : Bd y c d) (h1 : -2147483648 ≤ a - d) (h2 : b - c ≤ 2147483647) : z.toInt = x.toInt - y.toInt := by
  rw [e, Int32.toInt_sub, ib_bm (by omega) (by omega)]
theorem ib_neg {x z : Int32} {a b : Int} (e : z = -x) (hx : Bd x a b) (h1 : -2147483648 < a) : z.toInt = -x.toInt := by
  have hr := ib_rng x
  rw [e, Int32.toInt_neg, ib_bm (by omega) (by omega)]
/-- a product with a number that is known -/
theorem ib_mulc {x z : Int32} {k : Int32} {q a b : Int} (e : z = x * k) (hk : k.toInt = q) (hq : 0 ≤ q) (hx : Bd x a b) (h1 : -2147483648 ≤ a * q) (h2 : b * q ≤ 2147483647) : z.toInt = x.toInt * q := by
  have l1 : a * q ≤ x.toInt * q := Int.mul_le_mul_of_nonneg_right hx.1 hq
  have l2 : x.toInt * q ≤ b * q := Int.mul_le_mul_of_nonneg_right hx.2 hq
  rw [e, Int32.toInt_mul, hk, ib_bm (by omega) (by omega)]
theorem ib_cmul {x z : Int32} {k : Int32} {q a b : Int} (e : z = k * x) (hk : k.toInt = q) (hq : 0 ≤ q) (hx : Bd x a b) (h1 : -2147483648 ≤ a * q) (h2 : b * q ≤ 2147483647) : z.toInt = x.toInt * q :=
  ib_mulc (e.trans (Int32.mul_comm k x)) hk hq hx h1 h2
theorem ib_mulb {x : Int32} {z q a b : Int} (e : z = x.toInt * q) (hq : 0 ≤ q) (hx : Bd x a b) : a * q ≤ z ∧ z ≤ b * q := by
  rw [e]
  exact ⟨Int.mul_le_mul_of_nonneg_right hx.1 hq, Int.mul_le_mul_of_nonneg_right hx.2 hq⟩
theorem ib_addb {x y : Int32} {z a b c d : Int} (e : z = x.toInt + y.toInt) (hx : Bd x a b) (hy : Bd y c d) : a + c ≤ z ∧ z ≤ b + d := by omega
theorem ib_subb {x y : Int32} {z a b c d : Int} (e : z = x.toInt - y.toInt) (hx : Bd x a b) (hy : Bd y c d) : a - d ≤ z ∧ z ≤ b - c := by omega
theorem ib_negb {x : Int32} {z a b : Int} (e : z = -x.toInt) (hx : Bd x a b) : -b ≤ z ∧ z ≤ -a := by omega
/-- what a comparison says -/
theorem ib_lt {x y : Int32} (h : x < y) : x.toInt < y.toInt := Int32.lt_iff_toInt_lt.mp h
theorem ib_nlt {x y : Int32} (h : ¬ x < y) : y.toInt ≤ x.toInt := by
  have : ¬ x.toInt < y.toInt := fun q => h (Int32.lt_iff_toInt_lt.mpr q)
  omega
theorem ib_le {x y : Int32} (h : x ≤ y) : x.toInt ≤ y.toInt := Int32.le_iff_toInt_le.mp h
theorem ib_nle {x y : Int32} (h : ¬ x ≤ y) : y.toInt < x.toInt := by
  have : ¬ x.toInt ≤ y.toInt := fun q => h (Int32.le_iff_toInt_le.mpr q)
  omega
theorem ib_eq {x y : Int32} (h : x = y) : x.toInt = y.toInt := by rw [h]
theorem ib_ne {x y : Int32} (h : ¬ x = y) : x.toInt ≠ y.toInt := fun q => h (Int32.toInt_inj.mp q)
theorem ib_in {x : Int32} {n : Nat} {a b : Int} (h : Bd x a b) (h1 : 0 ≤ a) (h2 : b < (n : Int)) : vp_in x n := vp_in_iff.mpr ⟨by omega, by omega⟩
theorem ib_inx {x : Int32} {n : Nat} (h1 : 0 ≤ x.toInt) (h2 : x.toInt < (n : Int)) : vp_in x n := vp_in_iff.mpr ⟨h1, h2⟩
/-- remainders, quotients, bits -/
theorem ib_tm (x y : Int) (hy : 1 ≤ y) : (0 ≤ x → 0 ≤ x.tmod y ∧ x.tmod y ≤ x) ∧ (x < 0 → x.tmod y ≤ 0 ∧ x ≤ x.tmod y) ∧ x.tmod y < y ∧ -y < x.tmod y := by
  have h1 := Int.tmod_lt_of_pos x (b := y) (by omega)
  have h2 := Int.lt_tmod_of_pos x (b := y) (by omega)
  have h3 : (x.tmod y).natAbs ≤ x.natAbs := by rw [Int.natAbs_tmod]; exact Nat.mod_le _ _
  refine ⟨fun h => ?_, fun h => ?_, h1, h2⟩
  · have h4 := Int.tmod_nonneg y h
    omega
  · have h4 := Int.tmod_nonneg y (show 0 ≤ -x by omega)
    rw [Int.neg_tmod] at h4
    omega
theorem ib_rem {x y z : Int32} (e : z = x - x / y * y) (hy : 1 ≤ y.toInt) : z.toInt = x.toInt.tmod y.toInt := by
  have hx := ib_rng x
  have hd : (x / y).toInt = x.toInt.tdiv y.toInt := Int32.toInt_div_of_ne_right x y (fun h => by rw [h] at hy; exact absurd hy (by decide))
  have hm := Int.tmod_def x.toInt y.toInt
  have hc : x.toInt.tdiv y.toInt * y.toInt = y.toInt * x.toInt.tdiv y.toInt := Int.mul_comm _ _
  obtain ⟨k1, k2, k3, k4⟩ := ib_tm x.toInt y.toInt hy
  have hmul : (x / y * y).toInt = y.toInt * x.toInt.tdiv y.toInt := by
    rw [Int32.toInt_mul, hd, hc]
    refine ib_bm ?_ ?_
    · rcases Int.lt_or_le x.toInt 0 with q | q
      · have := k2 q; omega
      · have := k1 q; omega
    · rcases Int.lt_or_le x.toInt 0 with q | q
      · have := k2 q; omega
      · have := k1 q; omega
  rw [e, Int32.toInt_sub, hmul, ← hm]
  refine ib_bm ?_ ?_
  · rcases Int.lt_or_le x.toInt 0 with q | q
    · have := k2 q; omega
    · have := k1 q; omega
  · rcases Int.lt_or_le x.toInt 0 with q | q
    · have := k2 q; omega
    · have := k1 q; omega
theorem ib_remb {x y z : Int32} {a b c d : Int} (e : z = x - x / y * y) (hx : Bd x a b) (hy : Bd y c d) (hc : 1 ≤ c) : Bd z (1 - d) (d - 1) := by
  have h := ib_rem e (by omega)
  obtain ⟨k1, k2, k3, k4⟩ := ib_tm x.toInt y.toInt (by omega)
  rw [← h] at k3 k4
  exact ⟨by omega, by omega⟩
theorem ib_remp {x y z : Int32} {a b c d : Int} (e : z = x - x / y * y) (hx : Bd x a b) (hy : Bd y c d) (ha : 0 ≤ a) (hc : 1 ≤ c) : Bd z 0 (d - 1) := by
  have h := ib_rem e (by omega)
  obtain ⟨k1, k2, k3, k4⟩ := ib_tm x.toInt y.toInt (by omega)
  have := k1 (by omega)
  rw [← h] at k3 this
  exact ⟨by omega, by omega⟩
/-- a remainder is below its divisor, exactly -/
theorem ib_remx {x y z : Int32} {a b c d : Int} (e : z = x - x / y * y) (hx : Bd x a b) (hy : Bd y c d) (hc : 1 ≤ c) : z.toInt < y.toInt ∧ -y.toInt < z.toInt := by
  have h := ib_rem e (by omega)
  obtain ⟨k1, k2, k3, k4⟩ := ib_tm x.toInt y.toInt (by omega)
  rw [← h] at k3 k4
  exact ⟨k3, k4⟩
theorem ib_divp {x y z : Int32} {a b c d : Int} (e : z = x / y) (hx : Bd x a b) (hy : Bd y c d) (ha : 0 ≤ a) (hc : 1 ≤ c) : Bd z 0 b := by
  have hd : (x / y).toInt = x.toInt.tdiv y.toInt := Int32.toInt_div_of_ne_right x y (fun h => by
    rw [h] at hy
    have h2 := hy.1
    have h3 : (-1 : Int32).toInt = -1 := by decide
    omega)
  rw [e]
  refine ⟨?_, ?_⟩
  · rw [hd]; exact Int.tdiv_nonneg (by omega) (by omega)
  · rw [hd]; exact Int.le_trans (Int.tdiv_le_self _ (by omega)) hx.2
theorem ib_ne0 {y : Int32} {c d : Int} (hy : Bd y c d) (hc : 1 ≤ c) : ¬ y = 0 := fun h => by
  rw [h] at hy
  have h2 := hy.1
  have : (0 : Int32).toInt = 0 := by decide
  omega
theorem ib_and {x z m : Int32} (k : Nat) (e : z = x &&& m) (hm : m.toBitVec.toNat = 2 ^ k - 1) (hk : k ≤ 30) : Bd z 0 (2 ^ k - 1) := by
  obtain ⟨j, hj, h⟩ := pk_andE x k hm
  have h1 : (2 : Nat) ^ k ≤ 2 ^ 30 := Nat.pow_le_pow_right (by decide) hk
  rw [e, h]
  have h2 : (nI j).toInt = (j : Int) := nI_toInt (by omega)
  have h3 : ((2 : Nat) ^ k : Int) = 2 ^ k := by norm_cast
  refine ⟨by omega, ?_⟩
  rw [h2]
  omega
theorem ib_byte (x : Int32) : Bd x.toInt8.toInt32 (-128) 127 := by
  rw [Bd, Int8.toInt_toInt32]
  have h1 := Int8.le_toInt x.toInt8
  have h2 := Int8.toInt_lt x.toInt8
  exact ⟨by omega, by omega⟩
/-- the fuel of a loop -/
theorem fu_0 {x : Int32} {h : Int} (hx : x.toInt ≤ h) (hn : h - x.toInt < ((0 : Nat) : Int)) : False := by omega
theorem fu_s {x y : Int32} {h : Int} {n : Nat} (e : y.toInt = x.toInt + 1) (hn : h - x.toInt < ((n + 1 : Nat) : Int)) : h - y.toInt < ((n : Nat) : Int) := by omega
theorem fu_e (x : Int32) (h : Int) : ∃ n : Nat, h - x.toInt < ((n : Nat) : Int) := ⟨(h - x.toInt).toNat + 1, by omega⟩
theorem fd_0 {x : Int32} {h : Int} (hx : h ≤ x.toInt) (hn : x.toInt - h < ((0 : Nat) : Int)) : False := by omega
theorem fd_s {x y : Int32} {h : Int} {n : Nat} (e : y.toInt = x.toInt - 1) (hn : x.toInt - h < ((n + 1 : Nat) : Int)) : y.toInt - h < ((n : Nat) : Int) := by omega
theorem fd_e (x : Int32) (h : Int) : ∃ n : Nat, x.toInt - h < ((n : Nat) : Int) := ⟨(x.toInt - h).toNat + 1, by omega⟩
/-- what a comparison makes of the bounds -/
theorem rf_lt {x y : Int32} {a b c d : Int} (hx : Bd x a b) (hy : Bd y c d) (h : x.toInt < y.toInt) : Bd x a (d - 1) ∧ Bd y (a + 1) d := ⟨⟨hx.1, by omega⟩, ⟨by omega, hy.2⟩⟩
theorem rf_le {x y : Int32} {a b c d : Int} (hx : Bd x a b) (hy : Bd y c d) (h : x.toInt ≤ y.toInt) : Bd x a d ∧ Bd y a d := ⟨⟨hx.1, by omega⟩, ⟨by omega, hy.2⟩⟩
theorem rf_eq {x y : Int32} {a b c d : Int} (hx : Bd x a b) (hy : Bd y c d) (h : x.toInt = y.toInt) : Bd x c d ∧ Bd y a b := ⟨⟨by omega, by omega⟩, ⟨by omega, by omega⟩⟩
theorem rf_nlo {x y : Int32} {a b : Int} (hx : Bd x a b) (hy : Bd y a a) (h : x.toInt ≠ y.toInt) : Bd x (a + 1) b := ⟨by omega, hx.2⟩
theorem rf_nhi {x y : Int32} {a b : Int} (hx : Bd x a b) (hy : Bd y b b) (h : x.toInt ≠ y.toInt) : Bd x a (b - 1) := ⟨hx.1, by omega⟩
theorem upd_b {f : Nat → Int32} {k : Nat} {x : Int32} {a b : Int} (hf : ∀ j, Bd (f j) a b) (hx : Bd x a b) : ∀ j, Bd (upd f k x j) a b := fun j => by
  unfold upd
  split
  · exact hx
  · exact hf j
theorem nar_b (x : Int32) : Bd (vp_nar .byte x) (-128) 127 := by rw [vp_nar_byte]; exact ib_byte x
theorem keep_up {P : va_E → Prop} {S S1 : SS} {k j : Nat} {v : va_E} (h : P (S j)) (e : S1 = va_up S k v) (hne : j ≠ k) : P (S1 j) := by rw [e, va_up_ne _ _ hne]; exact h
theorem up_o {S S1 S2 : SS} {L : List Nat} {k : Nat} {v : va_E} (ho : ∀ j, j ∉ L → S1 j = S j) (e : S2 = va_up S1 k v) (hk : k ∈ L) : ∀ j, j ∉ L → S2 j = S j := fun j hj => by
  rw [e, va_up_ne _ _ (fun h => hj (by rw [h]; exact hk)), ho j hj]
theorem o_trans {S S1 S2 : SS} {L L2 : List Nat} (ho : ∀ j, j ∉ L → S1 j = S j) (o2 : ∀ j, j ∉ L2 → S2 j = S1 j) (hs : ∀ x ∈ L2, x ∈ L) : ∀ j, j ∉ L → S2 j = S j := fun j hj => (o2 j (fun h => hj (hs j h))).trans (ho j hj)
theorem o_refl {S : SS} {L : List Nat} : ∀ j, j ∉ L → S j = S j := fun _ _ => rfl
theorem z_nar {x : Int32} (h : Bd x 0 1) : narrow .boolean (.int x) = .int x := by
  have h1 : x = 0 ∨ x = 1 := by
    rcases (show x.toInt = 0 ∨ x.toInt = 1 by omega) with q | q
    · exact Or.inl (Int32.toInt_inj.mp (q.trans (by decide)))
    · exact Or.inr (Int32.toInt_inj.mp (q.trans (by decide)))
  rcases h1 with rfl | rfl <;> rfl
theorem cpy_b {f f1 : Nat → Int32} {a b : Int} {sp dp n : Nat} (hf : ∀ j, Bd (f j) a b) (hg : ∀ j, Bd (f1 j) a b) : ∀ j, Bd (va_cpy f f1 sp dp n j) a b := fun j => by
  unfold va_cpy
  split
  · exact hf _
  · exact hg j
theorem ib_max {x y z : Int32} {a b c d lo hi : Int} (e : z = if x < y then y else x) (hx : Bd x a b) (hy : Bd y c d) (h1 : lo ≤ max a c) (h2 : b ≤ hi) (h3 : d ≤ hi) (_ : True) : Bd z lo hi := by
  rw [e]
  split
  · rename_i h; have := ib_lt h; exact ⟨by omega, by omega⟩
  · rename_i h; have := ib_nlt h; exact ⟨by omega, by omega⟩
theorem ib_min {x y z : Int32} {a b c d lo hi : Int} (e : z = if y < x then y else x) (hx : Bd x a b) (hy : Bd y c d) (h1 : lo ≤ a) (h2 : lo ≤ c) (h3 : min b d ≤ hi) (_ : True) : Bd z lo hi := by
  rw [e]
  split
  · rename_i h; have := ib_lt h; exact ⟨by omega, by omega⟩
  · rename_i h; have := ib_nlt h; exact ⟨by omega, by omega⟩
/-! more rows for the walk with linear facts -/
def fld (e : va_E) (j : Nat) : Int := match e with
  | .inr (_, fs) => (match fs[j]? with | some (.int v) => v.toInt | _ => 0)
  | _ => 0
def elm (e : va_E) (i : Nat) : Int := match e with
  | .inl (_, _, .inl f) => (f i).toInt
  | _ => 0
theorem fld_of {e : va_E} {ci j : Nat} {fs : List Value} {v : Int32} (c : e = .inr (ci, fs)) (h : fs[j]? = some (.int v)) : fld e j = v.toInt := by
  rw [c, fld, h]
theorem elm_of {e : va_E} {t : ClassId} {n : Nat} {f : Nat → Int32} (c : e = .inl (t, n, .inl f)) (i : Nat) : elm e i = (f i).toInt := by
  rw [c, elm]
theorem ib_addx {x y z : Int32} {p q : Int} (e : z = x + y) (hx : x.toInt = p) (hy : y.toInt = q) (h1 : -2147483648 ≤ p + q) (h2 : p + q ≤ 2147483647) : z.toInt = p + q := by
  rw [e, Int32.toInt_add, hx, hy, ib_bm h1 h2]
theorem ib_subx {x y z : Int32} {p q : Int} (e : z = x - y) (hx : x.toInt = p) (hy : y.toInt = q) (h1 : -2147483648 ≤ p - q) (h2 : p - q ≤ 2147483647) : z.toInt = p - q := by
  rw [e, Int32.toInt_sub, hx, hy, ib_bm h1 h2]
theorem fold_add {x y z : Int32} {p q : Int} (t : z.toInt = x.toInt + y.toInt) (hx : x.toInt = p) (hy : y.toInt = q) : z.toInt = p + q := by rw [t, hx, hy]
theorem fold_sub {x y z : Int32} {p q : Int} (t : z.toInt = x.toInt - y.toInt) (hx : x.toInt = p) (hy : y.toInt = q) : z.toInt = p - q := by rw [t, hx, hy]
theorem ib_addL {x y z : Int64} {a b c d p q : Int} (e : z = x + y) (hx : BdL x a b) (hy : BdL y c d) (h1 : -9223372036854775808 ≤ a + c) (h2 : b + d ≤ 9223372036854775807) (hp : x.toInt = p) (hq : y.toInt = q) : z.toInt = p + q := by
  rw [e, Int64.toInt_add, hp, hq, ib_bmL (by omega) (by omega)]
theorem ib_subL {x y z : Int64} {a b c d p q : Int} (e : z = x - y) (hx : BdL x a b) (hy : BdL y c d) (h1 : -9223372036854775808 ≤ a - d) (h2 : b - c ≤ 9223372036854775807) (hp : x.toInt = p) (hq : y.toInt = q) : z.toInt = p - q := by
  rw [e, Int64.toInt_sub, hp, hq, ib_bmL (by omega) (by omega)]
theorem l2i_eq {x : Int64} {z : Int32} {a b : Int} (e : z = x.toInt32) (h : BdL x a b) (h1 : -2147483648 ≤ a) (h2 : b ≤ 2147483647) : z.toInt = x.toInt := by
  rw [e, Int64.toInt_toInt32, ib_bm (by omega) (by omega)]
theorem ib_maxx {x y z : Int32} {p q : Int} (e : z = if x < y then y else x) (hx : x.toInt = p) (hy : y.toInt = q) : p ≤ z.toInt ∧ q ≤ z.toInt := by
  subst hx hy; rw [e]
  split
  · rename_i h; have := ib_lt h; exact ⟨by omega, by omega⟩
  · rename_i h; have := ib_nlt h; exact ⟨by omega, by omega⟩
theorem ib_minx {x y z : Int32} {p q : Int} (e : z = if y < x then y else x) (hx : x.toInt = p) (hy : y.toInt = q) : z.toInt ≤ p ∧ z.toInt ≤ q := by
  subst hx hy; rw [e]
  split
  · rename_i h; have := ib_lt h; exact ⟨by omega, by omega⟩
  · rename_i h; have := ib_nlt h; exact ⟨by omega, by omega⟩
theorem rf_ltL {x y : Int64} {a b c d : Int} (hx : BdL x a b) (hy : BdL y c d) (h : x.toInt < y.toInt) : BdL x a (d - 1) ∧ BdL y (a + 1) d := ⟨⟨hx.1, by omega⟩, ⟨by omega, hy.2⟩⟩
theorem rf_leL {x y : Int64} {a b c d : Int} (hx : BdL x a b) (hy : BdL y c d) (h : x.toInt ≤ y.toInt) : BdL x a d ∧ BdL y a d := ⟨⟨hx.1, by omega⟩, ⟨by omega, hy.2⟩⟩
theorem rf_eqL {x y : Int64} {a b c d : Int} (hx : BdL x a b) (hy : BdL y c d) (h : x.toInt = y.toInt) : BdL x c d ∧ BdL y a b := ⟨⟨by omega, by omega⟩, ⟨by omega, by omega⟩⟩
theorem rf_nloL {x y : Int64} {a b : Int} (hx : BdL x a b) (hy : BdL y a a) (h : x.toInt ≠ y.toInt) : BdL x (a + 1) b := ⟨by omega, hx.2⟩
theorem rf_nhiL {x y : Int64} {a b : Int} (hx : BdL x a b) (hy : BdL y b b) (h : x.toInt ≠ y.toInt) : BdL x a (b - 1) := ⟨hx.1, by omega⟩
theorem lc_lt {x y : Int64} (h : lg_cmp x y < 0) : x.toInt < y.toInt := i64_lt.mp ((lg_cmp_lt x y).mp h)
theorem lc_nlt {x y : Int64} (h : ¬ lg_cmp x y < 0) : y.toInt ≤ x.toInt := by
  have : ¬ x.toInt < y.toInt := fun q => h ((lg_cmp_lt x y).mpr (i64_lt.mpr q))
  omega
theorem lc_le {x y : Int64} (h : lg_cmp x y ≤ 0) : x.toInt ≤ y.toInt := i64_le.mp ((lg_cmp_le x y).mp h)
theorem lc_nle {x y : Int64} (h : ¬ lg_cmp x y ≤ 0) : y.toInt < x.toInt := by
  have : ¬ x.toInt ≤ y.toInt := fun q => h ((lg_cmp_le x y).mpr (i64_le.mpr q))
  omega
theorem lc_gt {x y : Int64} (h : 0 < lg_cmp x y) : y.toInt < x.toInt := i64_lt.mp ((lg_cmp_gt x y).mp h)
theorem lc_ngt {x y : Int64} (h : ¬ 0 < lg_cmp x y) : x.toInt ≤ y.toInt := by
  have : ¬ y.toInt < x.toInt := fun q => h ((lg_cmp_gt x y).mpr (i64_lt.mpr q))
  omega
theorem lc_ge {x y : Int64} (h : 0 ≤ lg_cmp x y) : y.toInt ≤ x.toInt := i64_le.mp ((lg_cmp_ge x y).mp h)
theorem lc_nge {x y : Int64} (h : ¬ 0 ≤ lg_cmp x y) : x.toInt < y.toInt := by
  have : ¬ y.toInt ≤ x.toInt := fun q => h ((lg_cmp_ge x y).mpr (i64_le.mpr q))
  omega
theorem lc_eq {x y : Int64} (h : lg_cmp x y = 0) : x.toInt = y.toInt := by rw [(lg_cmp_eq x y).mp h]
theorem lc_ne {x y : Int64} (h : ¬ lg_cmp x y = 0) : x.toInt ≠ y.toInt := fun q => h ((lg_cmp_eq x y).mpr (Int64.toInt_inj.mp q))
theorem fu_n (x : Int) : ∃ n : Nat, x < ((n : Nat) : Int) := ⟨x.toNat + 1, by omega⟩
theorem bd_c3 {i : Int32} (h : Bd i 0 2) : i = 0 ∨ i = 1 ∨ i = 2 := by
  rcases (show i.toInt = 0 ∨ i.toInt = 1 ∨ i.toInt = 2 by omega) with q | q | q
  · exact Or.inl (Int32.toInt_inj.mp (q.trans (by decide)))
  · exact Or.inr (Or.inl (Int32.toInt_inj.mp (q.trans (by decide))))
  · exact Or.inr (Or.inr (Int32.toInt_inj.mp (q.trans (by decide))))
theorem bd_c4 {i : Int32} (h : Bd i 0 3) : i = 0 ∨ i = 1 ∨ i = 2 ∨ i = 3 := by
  rcases (show i.toInt = 0 ∨ i.toInt = 1 ∨ i.toInt = 2 ∨ i.toInt = 3 by omega) with q | q | q | q
  · exact Or.inl (Int32.toInt_inj.mp (q.trans (by decide)))
  · exact Or.inr (Or.inl (Int32.toInt_inj.mp (q.trans (by decide))))
  · exact Or.inr (Or.inr (Or.inl (Int32.toInt_inj.mp (q.trans (by decide)))))
  · exact Or.inr (Or.inr (Or.inr (Int32.toInt_inj.mp (q.trans (by decide)))))
theorem upd_o {f : Nat → Int32} {k j : Nat} {x : Int32} (h : j ≠ k) : upd f k x j = f j := by unfold upd; rw [if_neg h]
theorem upd_s {f : Nat → Int32} {k : Nat} {x : Int32} : upd f k x k = x := by unfold upd; rw [if_pos rfl]
theorem fill_b {f : Nat → Int32} {v : Int32} {n : Nat} {a b : Int} (hf : ∀ j, Bd (f j) a b) (hv : Bd v a b) : ∀ j, Bd (fillF v n f j) a b := fun j => by
  unfold fillF
  split
  · exact hv
  · exact hf j
theorem nar_z (x : Int32) : Bd (vp_nar .boolean x) 0 1 := by
  have h : vp_nar .boolean x = x &&& 1 := rfl
  rw [h]
  exact ib_and (m := 1) 1 rfl (by decide) (by decide)
theorem clampN {i : Int32} {a b : Int} (_ : Bd i a b) : i.toNatClampNeg = i.toInt.toNat := rfl
theorem upd_m {f : Nat → Int32} {k m r : Nat} {x : Int32} {a b : Int} (hf : ∀ j, j % m = r → Bd (f j) a b) (hx : Bd x a b) : ∀ j, j % m = r → Bd (upd f k x j) a b := fun j hj => by
  unfold upd
  split
  · exact hx
  · exact hf j hj
theorem upd_mn {f : Nat → Int32} {k m r : Nat} {x : Int32} {a b : Int} (hf : ∀ j, j % m = r → Bd (f j) a b) (hk : k % m ≠ r) : ∀ j, j % m = r → Bd (upd f k x j) a b := fun j hj => by
  unfold upd
  split
  · rename_i h; subst h; exact absurd hj hk
  · exact hf j hj
theorem nlt0 {x : Int32} (h : 0 ≤ x.toInt) : ¬ x < 0 := fun q => by have := tlt0 q; omega
theorem cl_add {x y : Int32} {n : Nat} (hx : 0 ≤ x.toInt) (hy : 0 ≤ y.toInt) (h : x.toInt + y.toInt ≤ n) : x.toNatClampNeg + y.toNatClampNeg ≤ n := by
  show x.toInt.toNat + y.toInt.toNat ≤ n
  omega
theorem z_fit {x : Int32} (h : Bd x 0 1) : fits .boolean (.int x) = true := by
  have h1 : x = 0 ∨ x = 1 := by
    rcases (show x.toInt = 0 ∨ x.toInt = 1 by omega) with q | q
    · exact Or.inl (Int32.toInt_inj.mp (q.trans (by decide)))
    · exact Or.inr (Int32.toInt_inj.mp (q.trans (by decide)))
  rcases h1 with rfl | rfl <;> rfl
theorem up_eq {S S1 : SS} {k j : Nat} {v : va_E} (e : S1 = va_up S k v) (h : j ≠ k) : S1 j = S j := by rw [e, va_up_ne _ _ h]
/-- what was done: a SITTER's act names a SITTER and a CELL -/
def ARp (a b c d : va_E) : Prop := ∀ j : Nat, (j : Int) < fld a 0 → elm b j = 0 → elm c j ≤ 2 ∧ elm d j ≤ 11
theorem ar_tr {a b c d a' b' c' d' : va_E} (h : ARp a b c d) (q0 : a' = a) (q1 : b' = b) (q2 : c' = c) (q3 : d' = d) : ARp a' b' c' d' := by rw [q0, q1, q2, q3]; exact h
theorem ar_add {a b c d a' b' c' d' : va_E} {ci : Nat} {fs fs' : List Value} {v z x y u : Int32} {t1 t2 t3 : ClassId} {n1 n2 n3 : Nat} {w h m : Nat → Int32}
    (e0 : a = .inr (ci, fs)) (hv : fs[0]? = some (.int v)) (e1 : b = .inl (t1, n1, .inl w)) (e2 : c = .inl (t2, n2, .inl h)) (e3 : d = .inl (t3, n3, .inl m)) (hA : ARp a b c d) (h0 : 0 ≤ v.toInt) (hw : x.toInt = 0 → y.toInt ≤ 2 ∧ u.toInt ≤ 11)
    (c0 : a' = .inr (ci, fs')) (hz : fs'[0]? = some (.int z)) (c1 : b' = .inl (t1, n1, .inl (upd w v.toNatClampNeg x))) (c2 : c' = .inl (t2, n2, .inl (upd h v.toNatClampNeg y))) (c3 : d' = .inl (t3, n3, .inl (upd m v.toNatClampNeg u))) (t : z.toInt = v.toInt + 1) : ARp a' b' c' d' := by
  intro j hj hb
  rw [fld_of c0 hz, t] at hj
  rw [elm_of c1 j] at hb
  rw [elm_of c2 j, elm_of c3 j]
  have hn : v.toNatClampNeg = v.toInt.toNat := rfl
  by_cases q : j = v.toNatClampNeg
  · subst q
    rw [upd_s] at hb
    rw [upd_s, upd_s]
    exact hw hb
  · rw [upd_o q] at hb
    rw [upd_o q, upd_o q]
    have := hA j (by rw [fld_of e0 hv]; omega) (by rw [elm_of e1 j]; exact hb)
    rw [elm_of e2 j, elm_of e3 j] at this
    exact this
theorem ar_dec {a b c d a' b' c' d' : va_E} (hA : ARp a b c d) (h : fld a' 0 ≤ fld a 0) (q1 : b' = b) (q2 : c' = c) (q3 : d' = d) : ARp a' b' c' d' := by
  rw [q1, q2, q3]
  exact fun j hj hb => hA j (by omega) hb
theorem cpy40 {f g : Nat → Int32} {j : Nat} (h : j < 40) : va_cpy f g (0 : Int32).toNatClampNeg (0 : Int32).toNatClampNeg (40 : Int32).toNatClampNeg j = f j := by
  have e0 : (0 : Int32).toNatClampNeg = 0 := by decide
  have e4 : (40 : Int32).toNatClampNeg = 40 := by decide
  rw [e0, e4]
  unfold va_cpy
  rw [if_pos (by omega)]
  congr 1
  omega
theorem ar_cpy {a b c d a' b' c' d' : va_E} {ci : Nat} {fs fs' : List Value} {v : Int32} {t1 t2 t3 s1 s2 s3 : ClassId} {n1 n2 n3 m1 m2 m3 : Nat} {w h m w' h' m' : Nat → Int32}
    (e0 : a = .inr (ci, fs)) (hv : fs[0]? = some (.int v)) (e1 : b = .inl (t1, n1, .inl w)) (e2 : c = .inl (t2, n2, .inl h)) (e3 : d = .inl (t3, n3, .inl m)) (hA : ARp a b c d) (h0 : v.toInt ≤ 40)
    (c0 : a' = .inr (ci, fs')) (hz : fs'[0]? = some (.int v)) (c1 : b' = .inl (s1, m1, .inl (va_cpy w w' (0 : Int32).toNatClampNeg (0 : Int32).toNatClampNeg (40 : Int32).toNatClampNeg))) (c2 : c' = .inl (s2, m2, .inl (va_cpy h h' (0 : Int32).toNatClampNeg (0 : Int32).toNatClampNeg (40 : Int32).toNatClampNeg))) (c3 : d' = .inl (s3, m3, .inl (va_cpy m m' (0 : Int32).toNatClampNeg (0 : Int32).toNatClampNeg (40 : Int32).toNatClampNeg))) : ARp a' b' c' d' := by
  intro j hj hb
  rw [fld_of c0 hz] at hj
  rw [elm_of c1 j, cpy40 (by omega)] at hb
  rw [elm_of c2 j, elm_of c3 j, cpy40 (by omega), cpy40 (by omega)]
  have := hA j (by rw [fld_of e0 hv]; exact hj) (by rw [elm_of e1 j]; exact hb)
  rw [elm_of e2 j, elm_of e3 j] at this
  exact this
theorem ar_at {a b c d : va_E} {ci : Nat} {fs : List Value} {v z x y : Int32} {t1 t2 t3 : ClassId} {n1 n2 n3 : Nat} {w h m : Nat → Int32} (hA : ARp a b c d) (e0 : a = .inr (ci, fs)) (hv : fs[0]? = some (.int v)) (e1 : b = .inl (t1, n1, .inl w)) (e2 : c = .inl (t2, n2, .inl h)) (e3 : d = .inl (t3, n3, .inl m)) (t : z.toInt = v.toInt - 1) (hz : 0 ≤ z.toInt) (ex : x = w z.toNatClampNeg) (hx : x.toInt = 0) (ey : y = h z.toNatClampNeg) : y.toInt ≤ 2 ∧ (m z.toNatClampNeg).toInt ≤ 11 := by
  have hn : z.toNatClampNeg = z.toInt.toNat := rfl
  have := hA z.toNatClampNeg (by rw [fld_of e0 hv]; omega) (by rw [elm_of e1, ← ex]; exact hx)
  rw [elm_of e2, elm_of e3, ← ey] at this
  exact this
/-- who sits where by a way that is tried -/
def CWp (cr tr : va_E) (m s0 n : Int) : Prop := (∀ c d : Nat, c < 12 → d < 12 → c ≠ d → elm cr c + elm cr d ≤ m) ∧ (∀ c : Nat, c < 12 → 0 ≤ elm cr c ∧ elm cr c ≤ m) ∧ ∀ q : Nat, s0 ≤ (q : Int) → (q : Int) < n → 1 ≤ elm cr (elm tr q).toNat
theorem cw_0 {cr tr : va_E} {t : ClassId} {f : Nat → Int32} (c : cr = .inl (t, 12, .inl (fillF 0 12 f))) {m s0 n : Int} (hm : 0 ≤ m) (hn : n ≤ s0) : CWp cr tr m s0 n := by
  have h0 : ∀ c0 : Nat, c0 < 12 → elm cr c0 = 0 := fun c0 h => by
    rw [elm_of c c0]
    unfold fillF
    rw [if_pos h]
    decide
  refine ⟨fun a b ha hb _ => by rw [h0 a ha, h0 b hb]; omega, fun a ha => by rw [h0 a ha]; omega, fun q h1 h2 => by omega⟩
theorem cw_s {cr tr cr' tr' : va_E} {t u : ClassId} {k : Nat} {f h : Nat → Int32} {i s x y : Int32} {m s0 n : Int} (hC : CWp cr tr m s0 n) (e1 : cr = .inl (t, 12, .inl f)) (e2 : tr = .inl (u, k, .inl h)) (c1 : cr' = .inl (t, 12, .inl (upd f i.toNatClampNeg y))) (c2 : tr' = .inl (u, k, .inl (upd h s.toNatClampNeg i))) (hi : Bd i 0 11) (hs : 0 ≤ s.toInt) (ex : x = f i.toNatClampNeg) (ty : y.toInt = x.toInt + 1) (h0 : s0 = s.toInt + 1) (hn : n ≤ 3) : CWp cr' tr' (m + 1) s.toInt n := by
  have hni : i.toNatClampNeg = i.toInt.toNat := rfl
  have hns : s.toNatClampNeg = s.toInt.toNat := rfl
  have hy : y.toInt = elm cr i.toNatClampNeg + 1 := by rw [ty, ex, elm_of e1]
  have E : ∀ c : Nat, elm cr' c = if c = i.toNatClampNeg then elm cr i.toNatClampNeg + 1 else elm cr c := fun c => by
    rw [elm_of c1 c]
    by_cases q : c = i.toNatClampNeg
    · rw [if_pos q, q, upd_s, hy]
    · rw [if_neg q, upd_o q, elm_of e1]
  refine ⟨fun a b ha hb hab => ?_, fun a ha => ?_, fun q h1 h2 => ?_⟩
  · have h1 := hC.1 a b ha hb hab
    rw [E a, E b]
    split
    · split
      · omega
      · rename_i qa _; subst qa; omega
    · split
      · rename_i qb; subst qb; omega
      · omega
  · have h1 := hC.2.1 a ha
    rw [E a]
    split
    · rename_i qa; subst qa; omega
    · omega
  · rw [elm_of c2 q]
    by_cases e : q = s.toNatClampNeg
    · rw [e, upd_s, E, if_pos hni.symm]
      have := (hC.2.1 i.toNatClampNeg (by omega)).1
      omega
    · rw [upd_o e]
      have := hC.2.2 q (by omega) h2
      rw [elm_of e2 q] at this
      rw [E]
      split
      · rename_i e3; rw [← e3]; omega
      · exact this
theorem cw_wk {cr tr : va_E} {m m' s0 s1 n : Int} (h : CWp cr tr m s0 n) (hm : m ≤ m') (hs : s0 ≤ s1) : CWp cr tr m' s1 n :=
  ⟨fun a b ha hb hab => Int.le_trans (h.1 a b ha hb hab) hm, fun a ha => ⟨(h.2.1 a ha).1, Int.le_trans (h.2.1 a ha).2 hm⟩, fun q h1 h2 => h.2.2 q (Int.le_trans hs h1) h2⟩
theorem cw_tr {cr tr cr' tr' : va_E} {m s0 n : Int} (h : CWp cr tr m s0 n) (q0 : cr' = cr) (q1 : tr' = tr) : CWp cr' tr' m s0 n := by rw [q0, q1]; exact h
theorem cw_b {cr tr : va_E} {t : ClassId} {f : Nat → Int32} {i x : Int32} {n : Int} (h : CWp cr tr 3 0 n) (c : cr = .inl (t, 12, .inl f)) (hi : Bd i 0 11) (ex : x = f i.toNatClampNeg) : Bd x 0 3 := by
  have hni : i.toNatClampNeg = i.toInt.toNat := rfl
  have := h.2.1 i.toNatClampNeg (by omega)
  rw [elm_of c, ← ex] at this
  exact this
theorem cw_b2 {cr tr : va_E} {t : ClassId} {f : Nat → Int32} {i x a : Int32} {n : Int} (h : CWp cr tr 3 0 n) (c : cr = .inl (t, 12, .inl f)) (hi : Bd i 0 11) (ha : Bd a 0 11) (hne : i.toInt ≠ a.toInt) (hf : 1 ≤ elm cr a.toInt.toNat) (ex : x = f i.toNatClampNeg) : Bd x 0 2 := by
  have hni : i.toNatClampNeg = i.toInt.toNat := rfl
  have h1 := h.2.1 i.toNatClampNeg (by omega)
  have h2 := h.1 i.toNatClampNeg a.toInt.toNat (by omega) (by omega) (by omega)
  rw [elm_of c, ← ex] at h1 h2
  rw [elm_of c] at h2
  rw [elm_of c] at hf
  exact ⟨h1.1, by omega⟩
theorem ar_z {a b c d : va_E} (h : fld a 0 ≤ 0) : ARp a b c d := fun j hj _ => by omega
theorem cw_b0 {cr tr : va_E} {t : ClassId} {f : Nat → Int32} {i x : Int32} {m s0 n : Int} (h : CWp cr tr m s0 n) (c : cr = .inl (t, 12, .inl f)) (hi : Bd i 0 11) (ex : x = f i.toNatClampNeg) (hm : m ≤ 2) : Bd x 0 2 := by
  have hni : i.toNatClampNeg = i.toInt.toNat := rfl
  have := h.2.1 i.toNatClampNeg (by omega)
  rw [elm_of c, ← ex] at this
  exact ⟨this.1, by omega⟩
theorem cw_s9 {cr tr cr' tr' : va_E} {t u : ClassId} {k : Nat} {f h : Nat → Int32} {i s x y : Int32} {m s0 n m' s1 : Int} (hC : CWp cr tr m s0 n) (e1 : cr = .inl (t, 12, .inl f)) (e2 : tr = .inl (u, k, .inl h)) (c1 : cr' = .inl (t, 12, .inl (upd f i.toNatClampNeg y))) (c2 : tr' = .inl (u, k, .inl (upd h s.toNatClampNeg i))) (hi : Bd i 0 11) (hs : 0 ≤ s.toInt) (ex : x = f i.toNatClampNeg) (ty : y.toInt = x.toInt + 1) (h0 : s0 = s.toInt + 1) (hn : n ≤ 3) (hm : m + 1 ≤ m') (h1 : s.toInt ≤ s1) : CWp cr' tr' m' s1 n :=
  cw_wk (cw_s hC e1 e2 c1 c2 hi hs ex ty h0 hn) hm h1
theorem cw_k9 {cr tr : va_E} {m s0 n n' : Int} (h : CWp cr tr m s0 n) (hm : m ≤ 3) (hs : s0 ≤ 0) (hn : n' ≤ n) : CWp cr tr 3 0 n' := by
  have := cw_wk (m' := 3) (s1 := 0) h hm hs
  exact ⟨this.1, this.2.1, fun q h1 h2 => this.2.2 q h1 (by omega)⟩
theorem cw_f {cr tr : va_E} {u : ClassId} {k : Nat} {h : Nat → Int32} {i v : Int32} {n : Int} (hW : CWp cr tr 3 0 n) (c : tr = .inl (u, k, .inl h)) (h0 : 0 ≤ i.toInt) (h1 : i.toInt < n) (e : v = h i.toNatClampNeg) : 1 ≤ elm cr v.toInt.toNat := by
  have hni : i.toNatClampNeg = i.toInt.toNat := rfl
  have := hW.2.2 i.toNatClampNeg (by omega) (by omega)
  rw [elm_of c, ← e] at this
  exact this
theorem ib_mulv {x y z : Int32} {a b c d : Int} (e : z = x * y) (hx : Bd x a b) (hy : Bd y c d) (ha : 0 ≤ a) (hc : 0 ≤ c) (h2 : b * d ≤ 2147483647) : Bd z (a * c) (b * d) := by
  have l1 : a * c ≤ x.toInt * y.toInt := Int.mul_le_mul hx.1 hy.1 hc (by omega)
  have l2 : x.toInt * y.toInt ≤ b * d := Int.mul_le_mul hx.2 hy.2 (by omega) (by omega)
  have l0 : 0 ≤ a * c := Int.mul_nonneg ha hc
  rw [Bd, e, Int32.toInt_mul, ib_bm (by omega) (by omega)]
  exact ⟨l1, l2⟩
theorem and_dec {v z y : Int32} (e : y = v &&& z) (e2 : z = v - 1) (hv : ¬ v = 0) : y.toBitVec.toNat < v.toBitVec.toNat := by
  have h1 : y.toBitVec.toNat ≤ z.toBitVec.toNat := by
    rw [e]
    show (v.toBitVec &&& z.toBitVec).toNat ≤ z.toBitVec.toNat
    rw [BitVec.toNat_and]
    exact Nat.and_le_right
  have h2 : v.toBitVec.toNat ≠ 0 := fun q => hv (by
    have : v.toBitVec = (0 : Int32).toBitVec := BitVec.eq_of_toNat_eq (by rw [q]; rfl)
    exact Int32.toBitVec_inj.mp this)
  have h3 : z.toBitVec.toNat = v.toBitVec.toNat - 1 := by
    rw [e2]
    show (v.toBitVec - (1 : BitVec 32)).toNat = _
    rw [BitVec.toNat_sub]
    have hlt := v.toBitVec.isLt
    have : (1 : BitVec 32).toNat = 1 := rfl
    rw [this]
    omega
  omega
/-- the reference's acts: a SITTER's act names a SITTER and a CELL (of the shore at place k) -/
def ATp (h a : va_E) (k : Nat) : Prop := ∀ j : Nat, (j : Int) < elm h (10 * k + 9) → elm a (160 * k + 4 * j) = 0 → elm a (160 * k + 4 * j + 1) ≤ 2 ∧ elm a (160 * k + 4 * j + 2) ≤ 11
theorem at_tr {h a h' a' : va_E} {k : Nat} (H : ATp h a k) (q0 : h' = h) (q1 : a' = a) : ATp h' a' k := by rw [q0, q1]; exact H
theorem at_0 {h a : va_E} {t : ClassId} {n : Nat} {f : Nat → Int32} {q i x : Int32} (H : ATp h a 0) (c : a = .inl (t, n, .inl f)) (hq : 0 ≤ q.toInt) (hl : q.toInt < elm h 9) (ei : i.toInt = 4 * q.toInt) (ex : x = f i.toNatClampNeg) (hx : x.toInt = 0) : (f (4 * q.toInt.toNat + 1)).toInt ≤ 2 ∧ (f (4 * q.toInt.toNat + 2)).toInt ≤ 11 := by
  have n0 : i.toNatClampNeg = i.toInt.toNat := rfl
  have m0 : 160 * 0 + 4 * q.toInt.toNat = i.toNatClampNeg := by omega
  have := H q.toInt.toNat (by show ((q.toInt.toNat : Nat) : Int) < elm h 9; omega) (by rw [m0, elm_of c, ← ex]; exact hx)
  rw [elm_of c, elm_of c] at this
  have m1 : 160 * 0 + 4 * q.toInt.toNat = 4 * q.toInt.toNat := by omega
  rw [m1] at this
  exact this
theorem at_1 {f : Nat → Int32} {q i1 : Int32} (h : (f (4 * q.toInt.toNat + 1)).toInt ≤ 2 ∧ (f (4 * q.toInt.toNat + 2)).toInt ≤ 11) (hq : 0 ≤ q.toInt) (e1 : i1.toInt = 4 * q.toInt + 1) : (f i1.toNatClampNeg).toInt ≤ 2 := by
  have n1 : i1.toNatClampNeg = i1.toInt.toNat := rfl
  rw [show i1.toNatClampNeg = 4 * q.toInt.toNat + 1 by omega]
  exact h.1
theorem at_2 {f : Nat → Int32} {q i2 : Int32} (h : (f (4 * q.toInt.toNat + 1)).toInt ≤ 2 ∧ (f (4 * q.toInt.toNat + 2)).toInt ≤ 11) (hq : 0 ≤ q.toInt) (e1 : i2.toInt = 4 * q.toInt + 2) : (f i2.toNatClampNeg).toInt ≤ 11 := by
  have n1 : i2.toNatClampNeg = i2.toInt.toNat := rfl
  rw [show i2.toNatClampNeg = 4 * q.toInt.toNat + 2 by omega]
  exact h.2
/-! what image, back, row, write, paste answer -/
def InP (r a b c : Int) : Prop := (r = 1 ∧ b ≤ a ∧ a ≤ c) ∨ (r = 0 ∧ (a < b ∨ c < a))
def ansBk (k : Int32) (v : Int) : Int32 := if k.toInt < 0 ∨ 2 < k.toInt then -2 else if v = 0 then -6 else 0
def ansWr (s i : Int32) (z : Int) : Int32 := if s.toInt < 0 ∨ 3 < s.toInt then -2 else if z = -1 then -6 else if i.toInt < 0 ∨ z ≤ i.toInt then -7 else 0
def ansPa (s i t k n : Int32) (zs zt ws wt : Int) : Int32 := if s.toInt < 0 ∨ 3 < s.toInt ∨ t.toInt < 0 ∨ 3 < t.toInt then -2 else if zs = -1 ∨ zt = -1 then -6 else if ws ≠ wt then -8 else if i.toInt < 0 ∨ k.toInt < 0 ∨ n.toInt < 0 ∨ zs < i.toInt + n.toInt ∨ zt < k.toInt + n.toInt then -7 else 0
theorem elm_ld {e : va_E} {k x : Int32} {t : ClassId} {m : Nat} {f : Nat → Int32} (c : e = .inl (t, m, .inl f)) (ex : x = f k.toNatClampNeg) : elm e k.toInt.toNat = x.toInt := by rw [elm_of c, ex]; rfl
/-- a number is put at its place -/
def PUp (e' e : va_E) (k : Int) (v : Int) (n : Nat) : Prop := ∀ j : Nat, j < n → elm e' j = if (j : Int) = k then v else elm e j
theorem pu_no {e' e : va_E} {k v : Int} {n : Nat} (q : e' = e) (h : k < 0 ∨ (n : Int) ≤ k) : PUp e' e k v n := fun j hj => by rw [q, if_neg (by omega)]
theorem pu_st {e' e : va_E} {t t' : ClassId} {m n : Nat} {f : Nat → Int32} {k x : Int32} {v : Int} (c : e = .inl (t, m, .inl f)) (c' : e' = .inl (t', m, .inl (upd f k.toNatClampNeg x))) (hk : 0 ≤ k.toInt) (hv : x.toInt = v) : PUp e' e k.toInt v n := fun j hj => by
  have hn : k.toNatClampNeg = k.toInt.toNat := rfl
  by_cases q : (j : Int) = k.toInt
  · rw [if_pos q, elm_of c', show j = k.toNatClampNeg by omega, upd_s, hv]
  · rw [if_neg q, elm_of c', elm_of c, upd_o (by omega)]
theorem pu_tr {e' e a' a : va_E} {k v : Int} {n : Nat} (h : PUp e' e k v n) (q' : a' = e') (q : a = e) : PUp a' a k v n := by rw [q', q]; exact h
def HoP (r i n z : Int) : Prop := (r = 1 ∧ 0 ≤ i ∧ 0 ≤ n ∧ i + n ≤ z) ∨ (r = 0 ∧ (i < 0 ∨ n < 0 ∨ z < i + n))
def HrP (r z : Int) : Prop := (r = 1 ∧ 0 ≤ z ∧ z ≤ 60) ∨ (r = 0 ∧ z = -1)
def ansWrM (s i : Int32) (w m : Int) : Int32 := if s.toInt < 0 ∨ 3 < s.toInt then -2 else if w = -1 then -6 else if i.toInt < 0 ∨ m ≤ i.toInt then -7 else 0
def ansPaM (s i t k n : Int32) (ms mt ws wt : Int) : Int32 := if s.toInt < 0 ∨ 3 < s.toInt ∨ t.toInt < 0 ∨ 3 < t.toInt then -2 else if ws = -1 ∨ wt = -1 then -6 else if ws ≠ wt then -8 else if i.toInt < 0 ∨ k.toInt < 0 ∨ n.toInt < 0 ∨ ms < i.toInt + n.toInt ∨ mt < k.toInt + n.toInt then -7 else 0
