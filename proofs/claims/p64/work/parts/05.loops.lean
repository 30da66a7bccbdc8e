theorem dJ7_fill_53178_0 : decode cJ7_fill_53178 0 = .ok (.iconst 0, 1) := by decide +kernel
theorem dJ7_fill_53178_1 : decode cJ7_fill_53178 1 = .ok (.istore_n 2, 1) := by decide +kernel
theorem dJ7_fill_53178_2 : decode cJ7_fill_53178 2 = .ok (.aload_n 0, 1) := by decide +kernel
theorem dJ7_fill_53178_3 : decode cJ7_fill_53178 3 = .ok (.arraylength, 1) := by decide +kernel
theorem dJ7_fill_53178_4 : decode cJ7_fill_53178 4 = .ok (.istore_n 3, 1) := by decide +kernel
theorem dJ7_fill_53178_5 : decode cJ7_fill_53178 5 = .ok (.iload_n 2, 1) := by decide +kernel
theorem dJ7_fill_53178_6 : decode cJ7_fill_53178 6 = .ok (.iload_n 3, 1) := by decide +kernel
theorem dJ7_fill_53178_7 : decode cJ7_fill_53178 7 = .ok (.if_icmp .ge 13, 3) := by decide +kernel
theorem dJ7_fill_53178_10 : decode cJ7_fill_53178 10 = .ok (.aload_n 0, 1) := by decide +kernel
theorem dJ7_fill_53178_11 : decode cJ7_fill_53178 11 = .ok (.iload_n 2, 1) := by decide +kernel
theorem dJ7_fill_53178_12 : decode cJ7_fill_53178 12 = .ok (.iload_n 1, 1) := by decide +kernel
theorem dJ7_fill_53178_13 : decode cJ7_fill_53178 13 = .ok (.iastore, 1) := by decide +kernel
theorem dJ7_fill_53178_14 : decode cJ7_fill_53178 14 = .ok (.iinc 2 1, 3) := by decide +kernel
theorem dJ7_fill_53178_17 : decode cJ7_fill_53178 17 = .ok (.goto (-12), 3) := by decide +kernel
theorem dJ7_fill_53178_20 : decode cJ7_fill_53178 20 = .ok (.return_, 1) := by decide +kernel
theorem dJ7_fill_d0a16_0 : decode cJ7_fill_d0a16 0 = .ok (.iconst 0, 1) := by decide +kernel
theorem dJ7_fill_d0a16_1 : decode cJ7_fill_d0a16 1 = .ok (.istore_n 3, 1) := by decide +kernel
theorem dJ7_fill_d0a16_2 : decode cJ7_fill_d0a16 2 = .ok (.aload_n 0, 1) := by decide +kernel
theorem dJ7_fill_d0a16_3 : decode cJ7_fill_d0a16 3 = .ok (.arraylength, 1) := by decide +kernel
theorem dJ7_fill_d0a16_4 : decode cJ7_fill_d0a16 4 = .ok (.istore 4, 2) := by decide +kernel
theorem dJ7_fill_d0a16_6 : decode cJ7_fill_d0a16 6 = .ok (.iload_n 3, 1) := by decide +kernel
theorem dJ7_fill_d0a16_7 : decode cJ7_fill_d0a16 7 = .ok (.iload 4, 2) := by decide +kernel
theorem dJ7_fill_d0a16_9 : decode cJ7_fill_d0a16 9 = .ok (.if_icmp .ge 13, 3) := by decide +kernel
theorem dJ7_fill_d0a16_12 : decode cJ7_fill_d0a16 12 = .ok (.aload_n 0, 1) := by decide +kernel
theorem dJ7_fill_d0a16_13 : decode cJ7_fill_d0a16 13 = .ok (.iload_n 3, 1) := by decide +kernel
theorem dJ7_fill_d0a16_14 : decode cJ7_fill_d0a16 14 = .ok (.lload_n 1, 1) := by decide +kernel
theorem dJ7_fill_d0a16_15 : decode cJ7_fill_d0a16 15 = .ok (.lastore, 1) := by decide +kernel
theorem dJ7_fill_d0a16_16 : decode cJ7_fill_d0a16 16 = .ok (.iinc 3 1, 3) := by decide +kernel
theorem dJ7_fill_d0a16_19 : decode cJ7_fill_d0a16 19 = .ok (.goto (-13), 3) := by decide +kernel
theorem dJ7_fill_d0a16_22 : decode cJ7_fill_d0a16 22 = .ok (.return_, 1) := by decide +kernel
theorem dX12_copyRow_0 : decode cX12_copyRow 0 = .ok (.iconst 0, 1) := by decide +kernel
theorem dX12_copyRow_1 : decode cX12_copyRow 1 = .ok (.istore 4, 2) := by decide +kernel
theorem dX12_copyRow_3 : decode cX12_copyRow 3 = .ok (.iload 4, 2) := by decide +kernel
theorem dX12_copyRow_5 : decode cX12_copyRow 5 = .ok (.iload_n 1, 1) := by decide +kernel
theorem dX12_copyRow_6 : decode cX12_copyRow 6 = .ok (.if_icmp .ge 25, 3) := by decide +kernel
theorem dX12_copyRow_9 : decode cX12_copyRow 9 = .ok (.aload_n 0, 1) := by decide +kernel
theorem dX12_copyRow_10 : decode cX12_copyRow 10 = .ok (.iload_n 1, 1) := by decide +kernel
theorem dX12_copyRow_11 : decode cX12_copyRow 11 = .ok (.iload_n 3, 1) := by decide +kernel
theorem dX12_copyRow_12 : decode cX12_copyRow 12 = .ok (.imul, 1) := by decide +kernel
theorem dX12_copyRow_13 : decode cX12_copyRow 13 = .ok (.iload 4, 2) := by decide +kernel
theorem dX12_copyRow_15 : decode cX12_copyRow 15 = .ok (.iadd, 1) := by decide +kernel
theorem dX12_copyRow_16 : decode cX12_copyRow 16 = .ok (.aload_n 0, 1) := by decide +kernel
theorem dX12_copyRow_17 : decode cX12_copyRow 17 = .ok (.iload_n 1, 1) := by decide +kernel
theorem dX12_copyRow_18 : decode cX12_copyRow 18 = .ok (.iload_n 2, 1) := by decide +kernel
theorem dX12_copyRow_19 : decode cX12_copyRow 19 = .ok (.imul, 1) := by decide +kernel
theorem dX12_copyRow_20 : decode cX12_copyRow 20 = .ok (.iload 4, 2) := by decide +kernel
theorem dX12_copyRow_22 : decode cX12_copyRow 22 = .ok (.iadd, 1) := by decide +kernel
theorem dX12_copyRow_23 : decode cX12_copyRow 23 = .ok (.iaload, 1) := by decide +kernel
theorem dX12_copyRow_24 : decode cX12_copyRow 24 = .ok (.iastore, 1) := by decide +kernel
theorem dX12_copyRow_25 : decode cX12_copyRow 25 = .ok (.iinc 4 1, 3) := by decide +kernel
theorem dX12_copyRow_28 : decode cX12_copyRow 28 = .ok (.goto (-25), 3) := by decide +kernel
theorem dX12_copyRow_31 : decode cX12_copyRow 31 = .ok (.return_, 1) := by decide +kernel
theorem fill_succ (v : Int32) (i : Nat) (f : Nat → Int32) : upd (fillF v i f) i v = fillF v (i + 1) f := by
  funext j
  by_cases h : j = i
  · subst h
    simp [upd, fillF]
  · by_cases h2 : j < i
    · simp [upd, fillF, h, h2, Nat.lt_succ_of_lt h2]
    · simp [upd, fillF, h, h2, show ¬ j < i + 1 by omega]
def fillL (v : Int64) (n : Nat) (f : Nat → Int64) : Nat → Int64 := fun j => if j < n then v else f j
theorem fillL_succ (v : Int64) (i : Nat) (f : Nat → Int64) : vp_updL (fillL v i f) i v = fillL v (i + 1) f := by
  funext j
  by_cases h : j = i
  · subst h
    simp [vp_updL, fillL]
  · by_cases h2 : j < i
    · simp [vp_updL, fillL, h, h2, Nat.lt_succ_of_lt h2]
    · simp [vp_updL, fillL, h, h2, show ¬ j < i + 1 by omega]
def cpF (f : Nat → Int32) (mn a b i : Nat) : Nat → Int32 := fun j => if mn * b ≤ j ∧ j < mn * b + i then f (mn * a + (j - mn * b)) else f j
theorem cpF_0 (f : Nat → Int32) (mn a b : Nat) : cpF f mn a b 0 = f := by
  funext j
  unfold cpF
  rw [if_neg (by omega)]
theorem cpF_at {f : Nat → Int32} {mn a b i : Nat} (hi : i < mn) (hab : mn * a + mn ≤ mn * b ∨ mn * b + mn ≤ mn * a) : cpF f mn a b i (mn * a + i) = f (mn * a + i) := by
  unfold cpF
  rw [if_neg (by omega)]
theorem cpF_succ {f : Nat → Int32} {mn a b i : Nat} : upd (cpF f mn a b i) (mn * b + i) (f (mn * a + i)) = cpF f mn a b (i + 1) := by
  funext j
  by_cases h : j = mn * b + i
  · subst h
    unfold upd cpF
    rw [if_pos rfl, if_pos (by omega)]
    congr 1
    omega
  · unfold upd cpF
    rw [if_neg h]
    by_cases h2 : mn * b ≤ j ∧ j < mn * b + i
    · rw [if_pos h2, if_pos (by omega)]
    · rw [if_neg h2, if_neg (by omega)]
theorem up_up {S : SS} {k : Nat} {a b : va_E} : va_up (va_up S k a) k b = va_up S k b := bx_uu S k a b
theorem up_id {S : SS} {k : Nat} {a : va_E} (h : S k = a) : S = va_up S k a := by
  funext j
  by_cases e : j = k
  · subst e; rw [va_up_self, h]
  · rw [va_up_ne _ _ e]
set_option maxHeartbeats 4000000 in
set_option maxRecDepth 100000 in
/-- Arrays.fill(int[], int) -/
theorem uFillI (l : Launch) (g : GG) (ad : Nat → Nat) (N : Nat) (hD : Dj ad N) (S : SS) (k : Nat) (hk : k < N) (n : Nat) (hn : n < 2 ^ 31) (f : Nat → Int32) (v : Int32) (hS : S k = .inl (g.2 0, n, .inl f)) : Met l yJ7_fill_53178 (wG (.code yJ7_fill_53178 cJ7_fill_53178 4 none)) (Rm 0) (XPre g ad N S [.ref (ad k), .int v]) (va_Qv (fun S' => S' = va_up S k (.inl (g.2 0, n, .inl (fillF v n f)))) (QB g ad N) (FA ad N)) 0 0 (FA ad N) := by
  refine xmet cJ7_fill_53178 "java/util/Arrays" (by decide) rfl (Nat.le_of_ble_eq_true rfl) (fun p e s m below meth c E hr hlk hml hQ ls hl => ?_)
  have hx := E.1
  have hb := E.2.1
  have hs : Sp ad N (FA ad N) := Sp.fa hD
  have loop : ∀ (q i : Nat) (S1 : SS) (H : Heap) (locs : List Loc) (ls : Array Slot), i ≤ n → n - i < q → S1 = va_up S k (.inl (g.2 0, n, .inl (fillF v i f))) → Hp g ad N S1 (FA ad N) s.heap H locs → lv_has ls 4 [(0, .ref (ad k)), (1, .int v), (2, .int (nI i)), (3, .int (nI n))] → W p l e (Rm 0) s m [.ref (ad k), .int v].toArray below meth c H locs 0 0 (MQ below (va_Qv (fun S' => S' = va_up S k (.inl (g.2 0, n, .inl (fillF v n f)))) (QB g ad N) (FA ad N)) [.ref (ad k), .int v].toArray s 0 0 (FA ad N)) (F0 m 5 ls []) := by
    intro q
    induction q with
    | zero => intro i S1 H locs ls h1 h2; exact absurd h2 (by omega)
    | succ q ih =>
      intro i S1 H locs ls hi hq e1 hQ hl
      refine lv_iload_n hx hb dJ7_fill_53178_5 rfl (lv_at hl 2 rfl) ?_
      refine lv_iload_n hx hb dJ7_fill_53178_6 rfl (lv_at hl 3 rfl) ?_
      refine lv_icmp_ge (tgt := 20) hx hb dJ7_fill_53178_7 (by decide) (fun c1 => ?_) (fun c1 => ?_)
      · have hin : i = n := by
          rcases Nat.lt_or_ge i n with h | h
          · exact absurd c1 (nI_ge h hn)
          · omega
        subst hin
        exact xrv E hr hlk hQ e1 dJ7_fill_53178_20
      · have hlt : i < n := by
          rcases Nat.lt_or_ge i n with h | h
          · exact h
          · exact absurd (nI_le h (by omega)) c1
        refine lv_aload_n hx hb dJ7_fill_53178_10 rfl (lv_at hl 0 rfl) ?_
        refine lv_iload_n hx hb dJ7_fill_53178_11 rfl (lv_at hl 2 rfl) ?_
        refine lv_iload_n hx hb dJ7_fill_53178_12 rfl (lv_at hl 1 rfl) ?_
        refine xiast E hs hQ k hk (up_at e1 rfl) (vp_in_nI hlt hn) dJ7_fill_53178_13 (fun H locs S2 e2 hQ => ?_)
        refine lv_iinc (v := nI (i + 1)) (lv' := [(2, .int (nI (i + 1))), (0, .ref (ad k)), (1, .int v), (3, .int (nI n))]) hx hb dJ7_fill_53178_14 hl (k := 2) rfl (nI_1 i) (by decide) rfl (fun ls hl => ?_)
        refine lv_goto (tgt := 5) hx hb dJ7_fill_53178_17 (by decide) ?_
        exact ih (i + 1) S2 _ _ _ hlt (by omega) (by rw [e2, e1, up_up, nI_clamp (by omega), fill_succ]) hQ (lv_sub hl [1, 2, 0, 3] rfl)
  have hl : lv_has ls 4 [(0, .ref (ad k)), (1, .int v)] := hl
  refine lv_iconst (v := 0) hx hb dJ7_fill_53178_0 (by decide) ?_
  refine lv_istore_n (lv' := [(2, .int 0), (0, .ref (ad k)), (1, .int v)]) hx hb dJ7_fill_53178_1 rfl hl (by decide) rfl (fun ls hl => ?_)
  refine lv_aload_n hx hb dJ7_fill_53178_2 rfl (lv_at hl 1 rfl) ?_
  refine xalen (v := nI n) E hQ k hk 0 hS rfl rfl dJ7_fill_53178_3 ?_
  refine lv_istore_n (lv' := [(3, .int (nI n)), (2, .int 0), (0, .ref (ad k)), (1, .int v)]) hx hb dJ7_fill_53178_4 rfl hl (by decide) rfl (fun ls hl => ?_)
  refine loop (n + 1) 0 S _ _ _ (Nat.zero_le n) (by omega) ?_ hQ ?_
  · rw [show fillF v 0 f = f from by funext j; simp [fillF]]
    exact up_id hS
  · exact lv_sub hl [2, 3, 1, 0] rfl
set_option maxHeartbeats 4000000 in
set_option maxRecDepth 100000 in
/-- Arrays.fill(long[], long) -/
theorem uFillL (l : Launch) (g : GG) (ad : Nat → Nat) (N : Nat) (hD : Dj ad N) (S : SS) (k : Nat) (hk : k < N) (n : Nat) (hn : n < 2 ^ 31) (f : Nat → Int64) (v : Int64) (hS : S k = .inl (g.2 2, n, .inr (.inl f))) : Met l yJ7_fill_d0a16 (wG (.code yJ7_fill_d0a16 cJ7_fill_d0a16 5 none)) (Rm 0) (XPre g ad N S [.ref (ad k), .long v]) (va_Qv (fun S' => S' = va_up S k (.inl (g.2 2, n, .inr (.inl (fillL v n f))))) (QB g ad N) (FA ad N)) 0 0 (FA ad N) := by
  refine xmet cJ7_fill_d0a16 "java/util/Arrays" (by decide) rfl (Nat.le_of_ble_eq_true rfl) (fun p e s m below meth c E hr hlk hml hQ ls hl => ?_)
  have hx := E.1
  have hb := E.2.1
  have hs : Sp ad N (FA ad N) := Sp.fa hD
  have loop : ∀ (q i : Nat) (S1 : SS) (H : Heap) (locs : List Loc) (ls : Array Slot), i ≤ n → n - i < q → S1 = va_up S k (.inl (g.2 2, n, .inr (.inl (fillL v i f)))) → Hp g ad N S1 (FA ad N) s.heap H locs → lv_has ls 5 [(0, .ref (ad k)), (1, .long v), (3, .int (nI i)), (4, .int (nI n))] → W p l e (Rm 0) s m [.ref (ad k), .long v].toArray below meth c H locs 0 0 (MQ below (va_Qv (fun S' => S' = va_up S k (.inl (g.2 2, n, .inr (.inl (fillL v n f))))) (QB g ad N) (FA ad N)) [.ref (ad k), .long v].toArray s 0 0 (FA ad N)) (F0 m 6 ls []) := by
    intro q
    induction q with
    | zero => intro i S1 H locs ls h1 h2; exact absurd h2 (by omega)
    | succ q ih =>
      intro i S1 H locs ls hi hq e1 hQ hl
      refine lv_iload_n hx hb dJ7_fill_d0a16_6 rfl (lv_at hl 2 rfl) ?_
      refine lv_iload hx hb dJ7_fill_d0a16_7 (lv_at hl 3 rfl) ?_
      refine lv_icmp_ge (tgt := 22) hx hb dJ7_fill_d0a16_9 (by decide) (fun c1 => ?_) (fun c1 => ?_)
      · have hin : i = n := by
          rcases Nat.lt_or_ge i n with h | h
          · exact absurd c1 (nI_ge h hn)
          · omega
        subst hin
        exact xrv E hr hlk hQ e1 dJ7_fill_d0a16_22
      · have hlt : i < n := by
          rcases Nat.lt_or_ge i n with h | h
          · exact h
          · exact absurd (nI_le h (by omega)) c1
        refine lv_aload_n hx hb dJ7_fill_d0a16_12 rfl (lv_at hl 0 rfl) ?_
        refine lv_iload_n hx hb dJ7_fill_d0a16_13 rfl (lv_at hl 2 rfl) ?_
        refine lv_lload_n hx hb dJ7_fill_d0a16_14 rfl (lv_at hl 1 rfl) ?_
        refine xlast E hs hQ k hk (up_at e1 rfl) (vp_in_nI hlt hn) dJ7_fill_d0a16_15 (fun H locs S2 e2 hQ => ?_)
        refine lv_iinc (v := nI (i + 1)) (lv' := [(3, .int (nI (i + 1))), (0, .ref (ad k)), (1, .long v), (4, .int (nI n))]) hx hb dJ7_fill_d0a16_16 hl (k := 2) rfl (nI_1 i) (by decide) rfl (fun ls hl => ?_)
        refine lv_goto (tgt := 6) hx hb dJ7_fill_d0a16_19 (by decide) ?_
        exact ih (i + 1) S2 _ _ _ hlt (by omega) (by rw [e2, e1, up_up, nI_clamp (by omega), fillL_succ]) hQ (lv_sub hl [1, 2, 0, 3] rfl)
  have hl : lv_has ls 5 [(0, .ref (ad k)), (1, .long v)] := hl
  refine lv_iconst (v := 0) hx hb dJ7_fill_d0a16_0 (by decide) ?_
  refine lv_istore_n (lv' := [(3, .int 0), (0, .ref (ad k)), (1, .long v)]) hx hb dJ7_fill_d0a16_1 rfl hl (by decide) rfl (fun ls hl => ?_)
  refine lv_aload_n hx hb dJ7_fill_d0a16_2 rfl (lv_at hl 1 rfl) ?_
  refine xalen (v := nI n) E hQ k hk 2 hS rfl rfl dJ7_fill_d0a16_3 ?_
  refine lv_istore (lv' := [(4, .int (nI n)), (3, .int 0), (0, .ref (ad k)), (1, .long v)]) hx hb dJ7_fill_d0a16_4 hl (by decide) rfl (fun ls hl => ?_)
  refine loop (n + 1) 0 S _ _ _ (Nat.zero_le n) (by omega) ?_ hQ ?_
  · rw [show fillL v 0 f = f from by funext j; simp [fillL]]
    exact up_id hS
  · exact lv_sub hl [2, 3, 1, 0] rfl
set_option maxHeartbeats 4000000 in
set_option maxRecDepth 100000 in
/-- the reference's copyRow(row, mn, a, b) -/
theorem uCopyRow (l : Launch) (g : GG) (ad : Nat → Nat) (N : Nat) (hD : Dj ad N) (S : SS) (k : Nat) (hk : k < N) (n : Nat) (hn : n < 2 ^ 31) (f : Nat → Int32) (mn a b : Nat) (hA : mn * a + mn ≤ n) (hB : mn * b + mn ≤ n) (hab : mn * a + mn ≤ mn * b ∨ mn * b + mn ≤ mn * a) (hS : S k = .inl (g.2 0, n, .inl f)) : Met l yX12_copyRow (wG (.code yX12_copyRow cX12_copyRow 5 none)) (Rm 0) (XPre g ad N S [.ref (ad k), .int (nI mn), .int (nI a), .int (nI b)]) (va_Qv (fun S' => S' = va_up S k (.inl (g.2 0, n, .inl (cpF f mn a b mn)))) (QB g ad N) (FA ad N)) 0 0 (FA ad N) := by
  refine xmet cX12_copyRow "EbbWreckModel" (by decide) rfl (Nat.le_of_ble_eq_true rfl) (fun p e s m below meth c E hr hlk hml hQ ls hl => ?_)
  have hx := E.1
  have hb := E.2.1
  have hs : Sp ad N (FA ad N) := Sp.fa hD
  have loop : ∀ (q i : Nat) (S1 : SS) (H : Heap) (locs : List Loc) (ls : Array Slot), i ≤ mn → mn - i < q → S1 = va_up S k (.inl (g.2 0, n, .inl (cpF f mn a b i))) → Hp g ad N S1 (FA ad N) s.heap H locs → lv_has ls 5 [(0, .ref (ad k)), (1, .int (nI mn)), (2, .int (nI a)), (3, .int (nI b)), (4, .int (nI i))] → W p l e (Rm 0) s m [.ref (ad k), .int (nI mn), .int (nI a), .int (nI b)].toArray below meth c H locs 0 0 (MQ below (va_Qv (fun S' => S' = va_up S k (.inl (g.2 0, n, .inl (cpF f mn a b mn)))) (QB g ad N) (FA ad N)) [.ref (ad k), .int (nI mn), .int (nI a), .int (nI b)].toArray s 0 0 (FA ad N)) (F0 m 3 ls []) := by
    intro q
    induction q with
    | zero => intro i S1 H locs ls h1 h2; exact absurd h2 (by omega)
    | succ q ih =>
      intro i S1 H locs ls hi hq e1 hQ hl
      refine lv_iload hx hb dX12_copyRow_3 (lv_at hl 4 rfl) ?_
      refine lv_iload_n hx hb dX12_copyRow_5 rfl (lv_at hl 1 rfl) ?_
      refine lv_icmp_ge (tgt := 31) hx hb dX12_copyRow_6 (by decide) (fun c1 => ?_) (fun c1 => ?_)
      · have hin : i = mn := by
          rcases Nat.lt_or_ge i mn with h | h
          · exact absurd c1 (nI_ge h (by omega))
          · omega
        subst hin
        exact xrv E hr hlk hQ e1 dX12_copyRow_31
      · have hlt : i < mn := by
          rcases Nat.lt_or_ge i mn with h | h
          · exact h
          · exact absurd (nI_le h (by omega)) c1
        refine lv_aload_n hx hb dX12_copyRow_9 rfl (lv_at hl 0 rfl) ?_
        refine lv_iload_n hx hb dX12_copyRow_10 rfl (lv_at hl 1 rfl) ?_
        refine lv_iload_n hx hb dX12_copyRow_11 rfl (lv_at hl 3 rfl) ?_
        refine lv_imul hx hb dX12_copyRow_12 ?_
        refine lv_iload hx hb dX12_copyRow_13 (lv_at hl 4 rfl) ?_
        refine lv_iadd hx hb dX12_copyRow_15 ?_
        rw [pk_mul, nI_add]
        refine lv_aload_n hx hb dX12_copyRow_16 rfl (lv_at hl 0 rfl) ?_
        refine lv_iload_n hx hb dX12_copyRow_17 rfl (lv_at hl 1 rfl) ?_
        refine lv_iload_n hx hb dX12_copyRow_18 rfl (lv_at hl 2 rfl) ?_
        refine lv_imul hx hb dX12_copyRow_19 ?_
        refine lv_iload hx hb dX12_copyRow_20 (lv_at hl 4 rfl) ?_
        refine lv_iadd hx hb dX12_copyRow_22 ?_
        rw [pk_mul, nI_add]
        refine xiald E hQ k hk (up_at e1 rfl) (vp_in_nI (by omega) hn) dX12_copyRow_23 ?_
        rw [nI_clamp (by omega), cpF_at hlt hab]
        refine xiast E hs hQ k hk (up_at e1 rfl) (vp_in_nI (by omega) hn) dX12_copyRow_24 (fun H locs S2 e2 hQ => ?_)
        refine lv_iinc (v := nI (i + 1)) (lv' := [(4, .int (nI (i + 1))), (0, .ref (ad k)), (1, .int (nI mn)), (2, .int (nI a)), (3, .int (nI b))]) hx hb dX12_copyRow_25 hl (k := 4) rfl (nI_1 i) (by decide) rfl (fun ls hl => ?_)
        refine lv_goto (tgt := 3) hx hb dX12_copyRow_28 (by decide) ?_
        exact ih (i + 1) S2 _ _ _ hlt (by omega) (by rw [e2, e1, up_up, nI_clamp (by omega), cpF_succ]) hQ (lv_sub hl [1, 2, 3, 4, 0] rfl)
  have hl : lv_has ls 5 [(0, .ref (ad k)), (1, .int (nI mn)), (2, .int (nI a)), (3, .int (nI b))] := hl
  refine lv_iconst (v := 0) hx hb dX12_copyRow_0 (by decide) ?_
  refine lv_istore (lv' := [(4, .int 0), (0, .ref (ad k)), (1, .int (nI mn)), (2, .int (nI a)), (3, .int (nI b))]) hx hb dX12_copyRow_1 hl (by decide) rfl (fun ls hl => ?_)
  refine loop (mn + 1) 0 S _ _ _ (Nat.zero_le mn) (by omega) ?_ hQ ?_
  · rw [cpF_0]
    exact up_id hS
  · exact lv_sub hl [1, 2, 3, 4, 0] rfl
