/-- elements that stay -/
def EFp (a b : va_E) (lo hi : Nat) : Prop := ∀ j, lo ≤ j → j < hi → elm a j = elm b j
theorem ef_tr {a b a' : va_E} {lo hi : Nat} (h : EFp a b lo hi) (q : a' = a) : EFp a' b lo hi := by rw [q]; exact h
theorem ef_tt {a b c : va_E} {lo hi : Nat} (h : EFp a b lo hi) (h2 : EFp b c lo hi) : EFp a c lo hi := fun j h0 h1 => (h j h0 h1).trans (h2 j h0 h1)
theorem ef_up {a b a' : va_E} {lo hi n k : Nat} {t : ClassId} {f : Nat → Int32} {x : Int32} (h : EFp a b lo hi) (c : a = .inl (t, n, .inl f)) (c' : a' = .inl (t, n, .inl (upd f k x))) (hk : hi ≤ k) : EFp a' b lo hi := fun j h0 h1 => by
  rw [← h j h0 h1, elm_of c, elm_of c', upd_o (by omega)]
/-- the reference's isByte -/
def byF (n : Int) (e : va_E) (k lo hi : Int32) : Int32 := if k.toInt < n ∧ lo.toInt ≤ elm e k.toInt.toNat ∧ elm e k.toInt.toNat ≤ hi.toInt then 1 else 0
theorem by_1 {n : Int} {e : va_E} {k lo hi x : Int32} {t : ClassId} {m : Nat} {f : Nat → Int32} (c : e = .inl (t, m, .inl f)) (h1 : k.toInt < n) (ex : x = f k.toNatClampNeg) (h2 : lo.toInt ≤ x.toInt) (h3 : x.toInt ≤ hi.toInt) : (1 : Int32) = byF n e k lo hi := by
  have h4 : elm e k.toInt.toNat = x.toInt := by rw [elm_of c, ex]; rfl
  unfold byF
  rw [h4, if_pos ⟨h1, h2, h3⟩]
theorem by_0 {n : Int} {e : va_E} {k lo hi : Int32} (h : ¬ (k.toInt < n ∧ lo.toInt ≤ elm e k.toInt.toNat ∧ elm e k.toInt.toNat ≤ hi.toInt)) : (0 : Int32) = byF n e k lo hi := by
  unfold byF
  rw [if_neg h]
theorem by_e {e : va_E} {k x : Int32} {t : ClassId} {m : Nat} {f : Nat → Int32} (c : e = .inl (t, m, .inl f)) (ex : x = f k.toNatClampNeg) : elm e k.toInt.toNat = x.toInt := by rw [elm_of c, ex]; rfl
theorem by_r {n : Int} {e : va_E} {k lo hi r : Int32} (g : r = byF n e k lo hi) (h : Bd r 1 1) : byF n e k lo hi = 1 := by
  rw [← g]
  exact Int32.toInt_inj.mp ((Int.le_antisymm h.2 h.1).trans (by decide))
theorem by_n {n : Int} {e e' : va_E} {k lo hi r : Int32} (g : r = byF n e k lo hi) (q : e = e') (h : Bd r 0 0) (h1 : byF n e' k lo hi = 1) : False := by
  rw [q] at g
  rw [h1] at g
  rw [g] at h
  exact absurd h (by decide)
/-- an array's numbers -/
def arr (e : va_E) : Nat → Int32 := match e with
  | .inl (_, _, .inl f) => f
  | _ => fun _ => 0
theorem arr_of {e : va_E} {t : ClassId} {n : Nat} {f : Nat → Int32} (c : e = .inl (t, n, .inl f)) : arr e = f := by rw [c]; rfl
theorem cp_b {f : Nat → Int32} {mn a b i : Nat} {lo hi : Int} (hf : ∀ j, Bd (f j) lo hi) : ∀ j, Bd (cpF f mn a b i j) lo hi := fun j => by
  unfold cpF
  split
  · exact hf _
  · exact hf j
theorem cp_m {f : Nat → Int32} {mn a b i m r q : Nat} {lo hi : Int} (hf : ∀ j, j % m = r → Bd (f j) lo hi) (hq : mn = m * q) : ∀ j, j % m = r → Bd (cpF f mn a b i j) lo hi := fun j hj => by
  unfold cpF
  split
  · rename_i h
    refine hf _ ?_
    have e : mn * a + (j - mn * b) + mn * b = j + mn * a := by omega
    have e1 : (mn * a + (j - mn * b)) % m = j % m := by
      have h1 : (mn * a + (j - mn * b) + mn * b) % m = (mn * a + (j - mn * b)) % m := by rw [hq, Nat.mul_assoc m q b, Nat.add_mul_mod_self_left]
      have h2 : (j + mn * a) % m = j % m := by rw [hq, Nat.mul_assoc, Nat.add_mul_mod_self_left]
      rw [← h1, e, h2]
    rw [e1]
    exact hj
  · exact hf j hj
theorem at_mono {h a h' a' : va_E} {k : Nat} (H : ATp h a k) (hle : elm h' (10 * k + 9) ≤ elm h (10 * k + 9)) (q : a' = a) : ATp h' a' k := by
  rw [q]
  exact fun j hj hb => H j (by omega) hb
theorem at_ef {h a h' a' : va_E} {k : Nat} (H : ATp h a k) (ef : EFp h' h 0 40) (hk : k < 4) (q : a' = a) : ATp h' a' k := at_mono H (by rw [ef (10 * k + 9) (by omega) (by omega)]; omega) q
theorem at_z {h a : va_E} {k : Nat} (h0 : elm h (10 * k + 9) ≤ 0) : ATp h a k := fun j hj _ => by omega
theorem cpF_at0 {f : Nat → Int32} {mn a b j : Nat} (h : j < mn) : cpF f mn a b mn (mn * b + j) = f (mn * a + j) := by
  unfold cpF
  rw [if_pos (by omega)]
  congr 1
  omega
theorem cpF_at1 {f : Nat → Int32} {mn a b j : Nat} (h : ¬ (mn * b ≤ j ∧ j < mn * b + mn)) : cpF f mn a b mn j = f j := by
  unfold cpF
  rw [if_neg h]
theorem at_cpb {h a h' a' : va_E} {t u t' u' : ClassId} {n m : Nat} {f w : Nat → Int32} {x y : Nat} (e7 : h = .inl (t, n, .inl f)) (e12 : a = .inl (u, m, .inl w)) (c7 : h' = .inl (t', n, .inl (cpF f 10 x y 10))) (c12 : a' = .inl (u', m, .inl (cpF w 160 x y 160))) (h9 : ∀ j, j % 10 = 9 → Bd (f j) 0 40) (H : ATp h a x) : ATp h' a' y := by
  intro j hj hb
  have e : elm h' (10 * y + 9) = elm h (10 * x + 9) := by rw [elm_of c7, elm_of e7, cpF_at0 (by omega)]
  rw [e] at hj
  have hb9 := h9 (10 * x + 9) (by omega)
  have hj4 : j < 40 := by rw [elm_of e7] at hj; omega
  have q0 : elm a' (160 * y + 4 * j) = elm a (160 * x + 4 * j) := by rw [elm_of c12, elm_of e12, cpF_at0 (by omega)]
  have q1 : elm a' (160 * y + 4 * j + 1) = elm a (160 * x + 4 * j + 1) := by rw [elm_of c12, elm_of e12, Nat.add_assoc, cpF_at0 (by omega), Nat.add_assoc]
  have q2 : elm a' (160 * y + 4 * j + 2) = elm a (160 * x + 4 * j + 2) := by rw [elm_of c12, elm_of e12, Nat.add_assoc, cpF_at0 (by omega), Nat.add_assoc]
  rw [q0] at hb
  rw [q1, q2]
  exact H j hj hb
theorem at_cpo {h a h' a' : va_E} {t u t' u' : ClassId} {n m : Nat} {f w : Nat → Int32} {x y k : Nat} (e7 : h = .inl (t, n, .inl f)) (e12 : a = .inl (u, m, .inl w)) (c7 : h' = .inl (t', n, .inl (cpF f 10 x y 10))) (c12 : a' = .inl (u', m, .inl (cpF w 160 x y 160))) (h9 : ∀ j, j % 10 = 9 → Bd (f j) 0 40) (hk : k ≠ y) (H : ATp h a k) : ATp h' a' k := by
  intro j hj hb
  have e : elm h' (10 * k + 9) = elm h (10 * k + 9) := by rw [elm_of c7, elm_of e7, cpF_at1 (by omega)]
  rw [e] at hj
  have hb9 := h9 (10 * k + 9) (by omega)
  have hj4 : j < 40 := by rw [elm_of e7] at hj; omega
  have q0 : elm a' (160 * k + 4 * j) = elm a (160 * k + 4 * j) := by rw [elm_of c12, elm_of e12, cpF_at1 (by omega)]
  have q1 : elm a' (160 * k + 4 * j + 1) = elm a (160 * k + 4 * j + 1) := by rw [elm_of c12, elm_of e12, cpF_at1 (by omega)]
  have q2 : elm a' (160 * k + 4 * j + 2) = elm a (160 * k + 4 * j + 2) := by rw [elm_of c12, elm_of e12, cpF_at1 (by omega)]
  rw [q0] at hb
  rw [q1, q2]
  exact H j hj hb
theorem at_add {h a h' a' : va_E} {t u t' u' : ClassId} {n m : Nat} {f w : Nat → Int32} {k v x y z b i0 i1 i2 i3 : Int32} {q : Nat} (e7 : h = .inl (t, n, .inl f)) (e12 : a = .inl (u, m, .inl w)) (c7 : h' = .inl (t', n, .inl (upd f (9 : Int32).toNatClampNeg v))) (c12 : a' = .inl (u', m, .inl (upd (upd (upd (upd w i0.toNatClampNeg x) i1.toNatClampNeg y) i2.toNatClampNeg z) i3.toNatClampNeg b)))
    (h9 : ∀ j, j % 10 = 9 → Bd (f j) 0 40) (ek : f 9 = k) (ev : v.toInt = k.toInt + 1) (hk : Bd k 0 39) (t0 : i0.toInt = 4 * k.toInt) (t1 : i1.toInt = 4 * k.toInt + 1) (t2 : i2.toInt = 4 * k.toInt + 2) (t3 : i3.toInt = 4 * k.toInt + 3) (hw : x.toInt = 0 → y.toInt ≤ 2 ∧ z.toInt ≤ 11) (hq : q < 4) (H : ATp h a q) : ATp h' a' q := by
  have n0 : i0.toNatClampNeg = i0.toInt.toNat := rfl
  have n1 : i1.toNatClampNeg = i1.toInt.toNat := rfl
  have n2 : i2.toNatClampNeg = i2.toInt.toNat := rfl
  have n3 : i3.toNatClampNeg = i3.toInt.toNat := rfl
  have n9 : (9 : Int32).toNatClampNeg = 9 := by decide
  rw [n9] at c7
  have eq : ∀ j, j ≠ i0.toNatClampNeg → j ≠ i1.toNatClampNeg → j ≠ i2.toNatClampNeg → j ≠ i3.toNatClampNeg → elm a' j = elm a j := fun j d0 d1 d2 d3 => by
    rw [elm_of c12, elm_of e12, upd_o d3, upd_o d2, upd_o d1, upd_o d0]
  intro j hj hb
  by_cases hq0 : q = 0
  · subst hq0
    have e9 : elm h' (10 * 0 + 9) = k.toInt + 1 := by rw [elm_of c7]; show (upd f 9 v 9).toInt = _; rw [upd_s]; exact ev
    rw [e9] at hj
    by_cases hjk : j = k.toInt.toNat
    · have p0 : 160 * 0 + 4 * j = i0.toNatClampNeg := by omega
      have p1 : 160 * 0 + 4 * j + 1 = i1.toNatClampNeg := by omega
      have p2 : 160 * 0 + 4 * j + 2 = i2.toNatClampNeg := by omega
      rw [p0, elm_of c12, upd_o (by omega), upd_o (by omega), upd_o (by omega), upd_s] at hb
      rw [p1, p2, elm_of c12, elm_of c12, upd_o (by omega), upd_o (by omega), upd_s, upd_o (by omega), upd_s]
      exact hw hb
    · have e9' : elm h (10 * 0 + 9) = k.toInt := by rw [elm_of e7]; show (f 9).toInt = _; rw [ek]
      rw [eq _ (by omega) (by omega) (by omega) (by omega)] at hb
      rw [eq _ (by omega) (by omega) (by omega) (by omega), eq _ (by omega) (by omega) (by omega) (by omega)]
      exact H j (by rw [e9']; omega) hb
  · have e9 : elm h' (10 * q + 9) = elm h (10 * q + 9) := by rw [elm_of c7, elm_of e7, upd_o (by omega)]
    rw [e9] at hj
    rw [eq _ (by omega) (by omega) (by omega) (by omega)] at hb
    rw [eq _ (by omega) (by omega) (by omega) (by omega), eq _ (by omega) (by omega) (by omega) (by omega)]
    exact H j hj hb
theorem bd_r13 {i : Int32} (h : Bd i 1 3) : i = 1 ∨ i = 2 ∨ i = 3 := by
  rcases (show i.toInt = 1 ∨ i.toInt = 2 ∨ i.toInt = 3 by omega) with q | q | q
  · exact Or.inl (Int32.toInt_inj.mp (q.trans (by decide)))
  · exact Or.inr (Or.inl (Int32.toInt_inj.mp (q.trans (by decide))))
  · exact Or.inr (Or.inr (Int32.toInt_inj.mp (q.trans (by decide))))
theorem i2l_i (x : Int32) : x.toInt64.toInt = x.toInt := w64 x
