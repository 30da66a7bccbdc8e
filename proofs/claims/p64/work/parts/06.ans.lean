theorem i32_lt {a b : Int32} : a < b ↔ a.toInt < b.toInt := Int32.lt_iff_toInt_lt
theorem i32_le {a b : Int32} : a ≤ b ↔ a.toInt ≤ b.toInt := Int32.le_iff_toInt_le
theorem i32_eq {a b : Int32} : a = b ↔ a.toInt = b.toInt := Int32.toInt_inj.symm
theorem i64_lt {a b : Int64} : a < b ↔ a.toInt < b.toInt := Int64.lt_iff_toInt_lt
theorem i64_le {a b : Int64} : a ≤ b ↔ a.toInt ≤ b.toInt := Int64.le_iff_toInt_le
theorem w64 (x : Int32) : x.toInt64.toInt = x.toInt := by simp
theorem l_0 : (0 : Int32).toInt = 0 := by decide
theorem l_1 : (1 : Int32).toInt = 1 := by decide
theorem l_2 : (2 : Int32).toInt = 2 := by decide
theorem l_3 : (3 : Int32).toInt = 3 := by decide
theorem l_4 : (4 : Int32).toInt = 4 := by decide
theorem l_60 : (60 : Int32).toInt = 60 := by decide
theorem l_m1 : (-1 : Int32).toInt = -1 := by decide
theorem L_0 : (0 : Int64).toInt = 0 := by decide
theorem L_2 : (2 : Int64).toInt = 2 := by decide
theorem L_3 : (3 : Int64).toInt = 3 := by decide
theorem L_9 : (9 : Int64).toInt = 9 := by decide
theorem vp_in_of2 {x : Int32} {n : Nat} (h1 : ¬ x < 0) (h2 : ¬ nI n ≤ x) (hn : n < 2 ^ 31) : vp_in x n := by
  rcases pk_ix x hn with h | h | ⟨j, hj, rfl⟩
  · exact absurd h h1
  · exact absurd h h2
  · exact vp_in_nI hj hn
theorem szF_at {i : Int32} (h : vp_in i 4) : szF i.toNatClampNeg = -1 := by
  have h1 : i.toNatClampNeg < 4 := Nat.not_le.mp fun q => h (Or.inr q)
  unfold szF fillF
  rw [if_pos h1]
theorem wdF_at {i : Int32} (h : vp_in i 4) : wdF i.toNatClampNeg = -1 := by
  have h1 : i.toNatClampNeg < 4 := Nat.not_le.mp fun q => h (Or.inr q)
  rcases (show i.toNatClampNeg = 0 ∨ i.toNatClampNeg = 1 ∨ i.toNatClampNeg = 2 ∨ i.toNatClampNeg = 3 by omega) with e | e | e | e <;> rw [e] <;> rfl
theorem tlt0 {x : Int32} (h : x < 0) : x.toInt < 0 := by have := i32_lt.mp h; rw [l_0] at this; exact this
theorem tge {x : Int32} {n : Nat} (h : nI n ≤ x) (hn : n < 2 ^ 31) : (n : Int) ≤ x.toInt := by have := i32_le.mp h; rw [nI_toInt hn] at this; exact this
def ansEnd (n : Int32) : Int32 := if n.toInt = 0 then n else -1
def ansFault (w : Int32) : Int32 := if w.toInt = 0 then 0 else -1
def ansCount (w : Int32) : Int32 := if w.toInt < 0 ∨ 12 < w.toInt then -1 else 0
def ansImage (k : Int32) : Int32 := if k.toInt < 0 ∨ 2 < k.toInt then -2 else 0
def ansBack (k : Int32) : Int32 := if k.toInt < 0 ∨ 2 < k.toInt then -2 else -6
def ansRow (s w n : Int32) : Int32 := if s.toInt < 0 ∨ 3 < s.toInt ∨ w.toInt < 0 ∨ 3 < w.toInt ∨ 60 < n.toInt then -2 else if n.toInt < 0 then -3 else 0
def ansWrite (s : Int32) : Int32 := if s.toInt < 0 ∨ 3 < s.toInt then -2 else -6
def ansPaste (s t : Int32) : Int32 := if s.toInt < 0 ∨ 3 < s.toInt ∨ t.toInt < 0 ∨ 3 < t.toInt then -2 else -6
theorem vp_in_64 {x : Int32} {n : Nat} {hi : Int64} (h1 : 0 ≤ x.toInt64) (h2 : x.toInt64 ≤ hi) (hh : hi.toInt < (n : Int)) : vp_in x n := by
  rw [i64_le, w64, L_0] at h1
  rw [i64_le, w64] at h2
  exact vp_in_iff.mpr ⟨h1, by omega⟩
theorem ilt {x : Int32} {i nn : Nat} (h : ¬ x ≤ nI i) (e : x = nI nn) (hi : i < 2 ^ 31) : i < nn := by
  rcases Nat.lt_or_ge i nn with q | q
  · exact q
  · exact absurd (e ▸ nI_le q hi) h
