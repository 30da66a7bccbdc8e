/-- a place's things lie on its cells -/
def HTp (h t : va_E) (k : Nat) : Prop := ∀ j : Nat, (j : Int) < elm h (10 * k + 6) → elm t (24 * k + 3 * j + 1) < elm h (10 * k)
theorem ht_tr {h t h' t' : va_E} {k : Nat} (H : HTp h t k) (q : h' = h) (q2 : t' = t) : HTp h' t' k := by rw [q, q2]; exact H
theorem ht_z {h t : va_E} {k : Nat} (h0 : elm h (10 * k + 6) ≤ 0) : HTp h t k := fun j hj => by omega
theorem ht_fr {h t h' t' : va_E} {k : Nat} (H : HTp h t k) (a : elm h' (10 * k) = elm h (10 * k)) (b : elm h' (10 * k + 6) = elm h (10 * k + 6)) (q : t' = t) : HTp h' t' k := fun j hj => by
  rw [b] at hj
  rw [q, a]
  exact H j hj
theorem ht_ef {h t h' t' : va_E} {k : Nat} (H : HTp h t k) (ef7 : EFp h' h 0 40) (ef9 : EFp t' t 0 96) (hk : k < 4) (hb : elm h (10 * k + 6) ≤ 8) : HTp h' t' k := fun j hj => by
  rw [ef7 (10 * k + 6) (by omega) (by omega)] at hj
  rw [ef7 (10 * k) (by omega) (by omega), ef9 (24 * k + 3 * j + 1) (by omega) (by omega)]
  exact H j hj
theorem ht_cpb {h a h' a' : va_E} {t u t' u' : ClassId} {n m : Nat} {f w : Nat → Int32} {x y : Nat} (e7 : h = .inl (t, n, .inl f)) (e9 : a = .inl (u, m, .inl w)) (c7 : h' = .inl (t', n, .inl (cpF f 10 x y 10))) (c9 : a' = .inl (u', m, .inl (cpF w 24 x y 24))) (h6 : ∀ j, j % 10 = 6 → Bd (f j) 0 8) (H : HTp h a x) : HTp h' a' y := by
  intro j hj
  have e : elm h' (10 * y + 6) = elm h (10 * x + 6) := by rw [elm_of c7, elm_of e7, cpF_at0 (by omega)]
  have e0 : elm h' (10 * y) = elm h (10 * x) := by
    have := cpF_at0 (f := f) (mn := 10) (a := x) (b := y) (j := 0) (by omega)
    rw [elm_of c7, elm_of e7]
    exact congrArg Int32.toInt this
  rw [e] at hj
  have hb6 := h6 (10 * x + 6) (by omega)
  have hj8 : j < 8 := by rw [elm_of e7] at hj; omega
  have q1 : elm a' (24 * y + 3 * j + 1) = elm a (24 * x + 3 * j + 1) := by rw [elm_of c9, elm_of e9, Nat.add_assoc, cpF_at0 (by omega), Nat.add_assoc]
  rw [q1, e0]
  exact H j hj
theorem ht_cpo {h a h' a' : va_E} {t u t' u' : ClassId} {n m : Nat} {f w : Nat → Int32} {x y k : Nat} (e7 : h = .inl (t, n, .inl f)) (e9 : a = .inl (u, m, .inl w)) (c7 : h' = .inl (t', n, .inl (cpF f 10 x y 10))) (c9 : a' = .inl (u', m, .inl (cpF w 24 x y 24))) (h6 : ∀ j, j % 10 = 6 → Bd (f j) 0 8) (hk : k ≠ y) (H : HTp h a k) : HTp h' a' k := by
  intro j hj
  have e : elm h' (10 * k + 6) = elm h (10 * k + 6) := by rw [elm_of c7, elm_of e7, cpF_at1 (by omega)]
  have e0 : elm h' (10 * k) = elm h (10 * k) := by rw [elm_of c7, elm_of e7, cpF_at1 (by omega)]
  rw [e] at hj
  have hb6 := h6 (10 * k + 6) (by omega)
  have hj8 : j < 8 := by rw [elm_of e7] at hj; omega
  have q1 : elm a' (24 * k + 3 * j + 1) = elm a (24 * k + 3 * j + 1) := by rw [elm_of c9, elm_of e9, cpF_at1 (by omega)]
  rw [q1, e0]
  exact H j hj
/-- a thing more is read -/
theorem ht_add {h a h' a' : va_E} {u u' : ClassId} {m : Nat} {w : Nat → Int32} {i0 i1 i2 x y z : Int32} (e9 : a = .inl (u, m, .inl w)) (c9 : a' = .inl (u', m, .inl (upd (upd (upd w i0.toNatClampNeg x) i1.toNatClampNeg y) i2.toNatClampNeg z))) (H : HTp h a 4) (v0 : 0 ≤ elm h 46) (e46 : elm h' 46 = elm h 46 + 1) (e40 : elm h' 40 = elm h 40) (t0 : i0.toInt = 96 + 3 * elm h 46) (t1 : i1.toInt = 97 + 3 * elm h 46) (t2 : i2.toInt = 98 + 3 * elm h 46) (hy : y.toInt < elm h 40) : HTp h' a' 4 := by
  intro j hj
  have n0 : i0.toNatClampNeg = i0.toInt.toNat := rfl
  have n1 : i1.toNatClampNeg = i1.toInt.toNat := rfl
  have n2 : i2.toNatClampNeg = i2.toInt.toNat := rfl
  have hj : (j : Int) < elm h' 46 := hj
  show elm a' (24 * 4 + 3 * j + 1) < elm h' 40
  rw [e40]
  by_cases hjv : (j : Int) = elm h 46
  · rw [elm_of c9, upd_o (by omega), show 24 * 4 + 3 * j + 1 = i1.toNatClampNeg by omega, upd_s]
    exact hy
  · have q : elm a' (24 * 4 + 3 * j + 1) = elm a (24 * 4 + 3 * j + 1) := by rw [elm_of c9, elm_of e9, upd_o (by omega), upd_o (by omega), upd_o (by omega)]
    rw [q]
    exact H j (by show (j : Int) < elm h 46; omega)
/-- the cells of things stay -/
def EM1 (a b : va_E) : Prop := ∀ j, j % 3 = 1 → elm a j = elm b j
theorem em_r {a b : va_E} (q : a = b) : EM1 a b := fun j _ => by rw [q]
theorem em_u {a a' : va_E} {u u' : ClassId} {m : Nat} {w : Nat → Int32} {i x : Int32} (e9 : a = .inl (u, m, .inl w)) (c9 : a' = .inl (u', m, .inl (upd w i.toNatClampNeg x))) (q : i.toNatClampNeg % 3 = 0) : EM1 a' a := fun j hj => by
  rw [elm_of c9, elm_of e9, upd_o (by omega)]
theorem ht_em {h a h' a' : va_E} {k : Nat} (H : HTp h a k) (q : h' = h) (em : EM1 a' a) : HTp h' a' k := fun j hj => by
  rw [q] at hj ⊢
  rw [em (24 * k + 3 * j + 1) (by omega)]
  exact H j hj
theorem ht_use {h t : va_E} {u v : ClassId} {n m : Nat} {f w : Nat → Int32} {a x : Int32} (H : HTp h t 0) (c7 : h = .inl (u, n, .inl f)) (c9 : t = .inl (v, m, .inl w)) (ex : x = w ((3 : Int32) * a + 1).toNatClampNeg) (ha : Bd a 0 7) (h6 : a.toInt < elm h 6) : x.toInt < (arr h 0).toInt := by
  have w3 : (3 : Int32).toInt = 3 := by decide
  have w1 : (1 : Int32).toInt = 1 := by decide
  have a1 : ((3 : Int32) * a).toInt = 3 * a.toInt := by rw [Int32.toInt_mul, w3, ib_bm (by omega) (by omega)]
  have a2 : ((3 : Int32) * a + 1).toInt = 3 * a.toInt + 1 := by rw [Int32.toInt_add, a1, w1, ib_bm (by omega) (by omega)]
  have hn : 24 * 0 + 3 * a.toInt.toNat + 1 = ((3 : Int32) * a + 1).toNatClampNeg := by
    show _ = ((3 : Int32) * a + 1).toInt.toNat
    rw [a2]
    omega
  have q : elm t (24 * 0 + 3 * a.toInt.toNat + 1) < elm h 0 := H a.toInt.toNat (by show ((a.toInt.toNat : Nat) : Int) < elm h 6; omega)
  rw [hn, elm_of c9, ← ex, elm_of c7] at q
  rw [arr_of c7]
  exact q
