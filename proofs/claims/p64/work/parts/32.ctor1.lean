set_option maxHeartbeats 8000000 in
set_option maxRecDepth 100000 in
theorem kTide (l : Launch) (g : GG) (sz : Nat) (h0 : Nat) : Met l yX10_init (wG (.code yX10_init cX10_init 1 none)) (RmC 1 1 36) (CPre g sz [(h0, .inr (10, [.int 0, .int 0, .int 0, .int 0, .null]))] [.ref h0]) (va_Qv (fun _ : Nat → Nat => True) (fun u t => va_P g.1 vwCl ([(h0, .inr (10, [.int 0, .int 0, .int 0, .int 0, .ref (u 1)])), (u 1, .inl (g.2 0, 36, .inl zf))]) t.heap ∧ va_D (va_A [(h0, .inr (10, [.int 0, .int 0, .int 0, .int 0, .null]))] sz) ([(h0, .inr (10, [.int 0, .int 0, .int 0, .int 0, .ref (u 1)])), (u 1, .inl (g.2 0, 36, .inl zf))])) (va_A [(h0, .inr (10, [.int 0, .int 0, .int 0, .int 0, .null]))] sz)) 1 36 (va_A [(h0, .inr (10, [.int 0, .int 0, .int 0, .int 0, .null]))] sz) := by
  refine cmet cX10_init "EbbWreck$Tide" (by decide) rfl rfl (Nat.le_of_ble_eq_true rfl) (fun p e s m below meth c E hr hlk hin hml hNW hsz hP hD ls hl => ?_)
  have hx := E.1
  have hb := E.2.1
  subst hsz
  generalize hAe : va_A [(h0, .inr (10, [.int 0, .int 0, .int 0, .int 0, .null]))] s.heap.size = A at hD ⊢
  have hA : ∀ q : Nat, s.heap.size ≤ q → A q := fun q h => by rw [← hAe]; exact Or.inr h
  have hS : va_S A s.heap s.heap [] := va_S.rf
  have hP : va_P g.1 vwCl [(h0, .inr (10, [.int 0, .int 0, .int 0, .int 0, .null]))] s.heap := hP
  have hl : lv_has ls 1 [(0, .ref h0)] := hl
  refine lv_aload_n hx hb dX10_init_0 rfl (lv_at hl 0 rfl) ?_
  refine cinit E hml hl.1 q154 dX10_init_1 (Nat.le_of_ble_eq_true rfl) (Nat.le_of_ble_eq_true rfl) ?_
  refine lv_aload_n hx hb dX10_init_4 rfl (lv_at hl 0 rfl) ?_
  refine lv_bipush (v := 36) hx hb dX10_init_5 (by decide) ?_
  refine cnewa (a0 := (36, .inl zf)) E hP hD hS hA 0 q179 rfl rfl (fun _ h => h) (fun _ => rfl) (by decide) rfl (by decide) (Nat.le_of_ble_eq_true rfl) (Nat.le_of_ble_eq_true rfl) dX10_init_7 (fun q1 H hP hD hS => ?_)
  have hP : va_P g.1 vwCl [(h0, .inr (10, [.int 0, .int 0, .int 0, .int 0, .null])), (q1, .inl (g.2 0, 36, .inl zf))] H := hP
  have hD : va_D A [(h0, .inr (10, [.int 0, .int 0, .int 0, .int 0, .null])), (q1, .inl (g.2 0, 36, .inl zf))] := hD
  refine cputF (ty := .array .int) (v := .ref q1) E hin hP hD hS 0 rfl rfl 4 (by decide) q166 rfl rfl (by decide +kernel) rfl rfl (Nat.le_of_ble_eq_true rfl) dX10_init_9 (fun H locs hP hD hS => ?_)
  have hP : va_P g.1 vwCl [(h0, .inr (10, [.int 0, .int 0, .int 0, .int 0, .ref q1])), (q1, .inl (g.2 0, 36, .inl zf))] H := hP
  have hD : va_D A [(h0, .inr (10, [.int 0, .int 0, .int 0, .int 0, .ref q1])), (q1, .inl (g.2 0, 36, .inl zf))] := hD
  refine W.widen (k := 1) (n := 36) (Nat.le_of_ble_eq_true rfl) (Nat.le_of_ble_eq_true rfl) ?_
  exact W.vret hx hb hr (fun t ht hW => ⟨⟨adL [h0, q1], rfl, trivial, by rw [ht]; exact hP, hD⟩, hS.F ht⟩) hS.2.2 dX10_init_12 hlk
set_option maxHeartbeats 8000000 in
set_option maxRecDepth 100000 in
theorem kRules (l : Launch) (g : GG) (sz : Nat) (h0 : Nat) : Met l yX6_init (wG (.code yX6_init cX6_init 1 none)) (RmC 1 4 24) (CPre g sz [(h0, .inr (6, [.int 0, .null, .null, .null, .null]))] [.ref h0]) (va_Qv (fun _ : Nat → Nat => True) (fun u t => va_P g.1 vwCl ([(h0, .inr (6, [.int 0, .ref (u 1), .ref (u 2), .ref (u 3), .ref (u 4)])), (u 1, .inl (g.2 0, 6, .inl zf)), (u 2, .inl (g.2 0, 6, .inl zf)), (u 3, .inl (g.2 0, 6, .inl zf)), (u 4, .inl (g.2 0, 6, .inl zf))]) t.heap ∧ va_D (va_A [(h0, .inr (6, [.int 0, .null, .null, .null, .null]))] sz) ([(h0, .inr (6, [.int 0, .ref (u 1), .ref (u 2), .ref (u 3), .ref (u 4)])), (u 1, .inl (g.2 0, 6, .inl zf)), (u 2, .inl (g.2 0, 6, .inl zf)), (u 3, .inl (g.2 0, 6, .inl zf)), (u 4, .inl (g.2 0, 6, .inl zf))])) (va_A [(h0, .inr (6, [.int 0, .null, .null, .null, .null]))] sz)) 4 24 (va_A [(h0, .inr (6, [.int 0, .null, .null, .null, .null]))] sz) := by
  refine cmet cX6_init "EbbWreck$RuleBook" (by decide) rfl rfl (Nat.le_of_ble_eq_true rfl) (fun p e s m below meth c E hr hlk hin hml hNW hsz hP hD ls hl => ?_)
  have hx := E.1
  have hb := E.2.1
  subst hsz
  generalize hAe : va_A [(h0, .inr (6, [.int 0, .null, .null, .null, .null]))] s.heap.size = A at hD ⊢
  have hA : ∀ q : Nat, s.heap.size ≤ q → A q := fun q h => by rw [← hAe]; exact Or.inr h
  have hS : va_S A s.heap s.heap [] := va_S.rf
  have hP : va_P g.1 vwCl [(h0, .inr (6, [.int 0, .null, .null, .null, .null]))] s.heap := hP
  have hl : lv_has ls 1 [(0, .ref h0)] := hl
  refine lv_aload_n hx hb dX6_init_0 rfl (lv_at hl 0 rfl) ?_
  refine cinit E hml hl.1 q185 dX6_init_1 (Nat.le_of_ble_eq_true rfl) (Nat.le_of_ble_eq_true rfl) ?_
  refine lv_aload_n hx hb dX6_init_4 rfl (lv_at hl 0 rfl) ?_
  refine lv_bipush (v := 6) hx hb dX6_init_5 (by decide) ?_
  refine cnewa (a0 := (6, .inl zf)) E hP hD hS hA 0 q179 rfl rfl (fun _ h => h) (fun _ => rfl) (by decide) rfl (by decide) (Nat.le_of_ble_eq_true rfl) (Nat.le_of_ble_eq_true rfl) dX6_init_7 (fun q1 H hP hD hS => ?_)
  have hP : va_P g.1 vwCl [(h0, .inr (6, [.int 0, .null, .null, .null, .null])), (q1, .inl (g.2 0, 6, .inl zf))] H := hP
  have hD : va_D A [(h0, .inr (6, [.int 0, .null, .null, .null, .null])), (q1, .inl (g.2 0, 6, .inl zf))] := hD
  refine cputF (ty := .array .int) (v := .ref q1) E hin hP hD hS 0 rfl rfl 1 (by decide) q189 rfl rfl (by decide +kernel) rfl rfl (Nat.le_of_ble_eq_true rfl) dX6_init_9 (fun H locs hP hD hS => ?_)
  have hP : va_P g.1 vwCl [(h0, .inr (6, [.int 0, .ref q1, .null, .null, .null])), (q1, .inl (g.2 0, 6, .inl zf))] H := hP
  have hD : va_D A [(h0, .inr (6, [.int 0, .ref q1, .null, .null, .null])), (q1, .inl (g.2 0, 6, .inl zf))] := hD
  refine lv_aload_n hx hb dX6_init_12 rfl (lv_at hl 0 rfl) ?_
  refine lv_bipush (v := 6) hx hb dX6_init_13 (by decide) ?_
  refine cnewa (a0 := (6, .inl zf)) E hP hD hS hA 0 q179 rfl rfl (fun _ h => h) (fun _ => rfl) (by decide) rfl (by decide) (Nat.le_of_ble_eq_true rfl) (Nat.le_of_ble_eq_true rfl) dX6_init_15 (fun q2 H hP hD hS => ?_)
  have hP : va_P g.1 vwCl [(h0, .inr (6, [.int 0, .ref q1, .null, .null, .null])), (q1, .inl (g.2 0, 6, .inl zf)), (q2, .inl (g.2 0, 6, .inl zf))] H := hP
  have hD : va_D A [(h0, .inr (6, [.int 0, .ref q1, .null, .null, .null])), (q1, .inl (g.2 0, 6, .inl zf)), (q2, .inl (g.2 0, 6, .inl zf))] := hD
  refine cputF (ty := .array .int) (v := .ref q2) E hin hP hD hS 0 rfl rfl 2 (by decide) q191 rfl rfl (by decide +kernel) rfl rfl (Nat.le_of_ble_eq_true rfl) dX6_init_17 (fun H locs hP hD hS => ?_)
  have hP : va_P g.1 vwCl [(h0, .inr (6, [.int 0, .ref q1, .ref q2, .null, .null])), (q1, .inl (g.2 0, 6, .inl zf)), (q2, .inl (g.2 0, 6, .inl zf))] H := hP
  have hD : va_D A [(h0, .inr (6, [.int 0, .ref q1, .ref q2, .null, .null])), (q1, .inl (g.2 0, 6, .inl zf)), (q2, .inl (g.2 0, 6, .inl zf))] := hD
  refine lv_aload_n hx hb dX6_init_20 rfl (lv_at hl 0 rfl) ?_
  refine lv_bipush (v := 6) hx hb dX6_init_21 (by decide) ?_
  refine cnewa (a0 := (6, .inl zf)) E hP hD hS hA 0 q179 rfl rfl (fun _ h => h) (fun _ => rfl) (by decide) rfl (by decide) (Nat.le_of_ble_eq_true rfl) (Nat.le_of_ble_eq_true rfl) dX6_init_23 (fun q3 H hP hD hS => ?_)
  have hP : va_P g.1 vwCl [(h0, .inr (6, [.int 0, .ref q1, .ref q2, .null, .null])), (q1, .inl (g.2 0, 6, .inl zf)), (q2, .inl (g.2 0, 6, .inl zf)), (q3, .inl (g.2 0, 6, .inl zf))] H := hP
  have hD : va_D A [(h0, .inr (6, [.int 0, .ref q1, .ref q2, .null, .null])), (q1, .inl (g.2 0, 6, .inl zf)), (q2, .inl (g.2 0, 6, .inl zf)), (q3, .inl (g.2 0, 6, .inl zf))] := hD
  refine cputF (ty := .array .int) (v := .ref q3) E hin hP hD hS 0 rfl rfl 3 (by decide) q193 rfl rfl (by decide +kernel) rfl rfl (Nat.le_of_ble_eq_true rfl) dX6_init_25 (fun H locs hP hD hS => ?_)
  have hP : va_P g.1 vwCl [(h0, .inr (6, [.int 0, .ref q1, .ref q2, .ref q3, .null])), (q1, .inl (g.2 0, 6, .inl zf)), (q2, .inl (g.2 0, 6, .inl zf)), (q3, .inl (g.2 0, 6, .inl zf))] H := hP
  have hD : va_D A [(h0, .inr (6, [.int 0, .ref q1, .ref q2, .ref q3, .null])), (q1, .inl (g.2 0, 6, .inl zf)), (q2, .inl (g.2 0, 6, .inl zf)), (q3, .inl (g.2 0, 6, .inl zf))] := hD
  refine lv_aload_n hx hb dX6_init_28 rfl (lv_at hl 0 rfl) ?_
  refine lv_bipush (v := 6) hx hb dX6_init_29 (by decide) ?_
  refine cnewa (a0 := (6, .inl zf)) E hP hD hS hA 0 q179 rfl rfl (fun _ h => h) (fun _ => rfl) (by decide) rfl (by decide) (Nat.le_of_ble_eq_true rfl) (Nat.le_of_ble_eq_true rfl) dX6_init_31 (fun q4 H hP hD hS => ?_)
  have hP : va_P g.1 vwCl [(h0, .inr (6, [.int 0, .ref q1, .ref q2, .ref q3, .null])), (q1, .inl (g.2 0, 6, .inl zf)), (q2, .inl (g.2 0, 6, .inl zf)), (q3, .inl (g.2 0, 6, .inl zf)), (q4, .inl (g.2 0, 6, .inl zf))] H := hP
  have hD : va_D A [(h0, .inr (6, [.int 0, .ref q1, .ref q2, .ref q3, .null])), (q1, .inl (g.2 0, 6, .inl zf)), (q2, .inl (g.2 0, 6, .inl zf)), (q3, .inl (g.2 0, 6, .inl zf)), (q4, .inl (g.2 0, 6, .inl zf))] := hD
  refine cputF (ty := .array .int) (v := .ref q4) E hin hP hD hS 0 rfl rfl 4 (by decide) q195 rfl rfl (by decide +kernel) rfl rfl (Nat.le_of_ble_eq_true rfl) dX6_init_33 (fun H locs hP hD hS => ?_)
  have hP : va_P g.1 vwCl [(h0, .inr (6, [.int 0, .ref q1, .ref q2, .ref q3, .ref q4])), (q1, .inl (g.2 0, 6, .inl zf)), (q2, .inl (g.2 0, 6, .inl zf)), (q3, .inl (g.2 0, 6, .inl zf)), (q4, .inl (g.2 0, 6, .inl zf))] H := hP
  have hD : va_D A [(h0, .inr (6, [.int 0, .ref q1, .ref q2, .ref q3, .ref q4])), (q1, .inl (g.2 0, 6, .inl zf)), (q2, .inl (g.2 0, 6, .inl zf)), (q3, .inl (g.2 0, 6, .inl zf)), (q4, .inl (g.2 0, 6, .inl zf))] := hD
  refine W.widen (k := 4) (n := 24) (Nat.le_of_ble_eq_true rfl) (Nat.le_of_ble_eq_true rfl) ?_
  exact W.vret hx hb hr (fun t ht hW => ⟨⟨adL [h0, q1, q2, q3, q4], rfl, trivial, by rw [ht]; exact hP, hD⟩, hS.F ht⟩) hS.2.2 dX6_init_36 hlk
set_option maxHeartbeats 8000000 in
set_option maxRecDepth 100000 in
theorem kActs (l : Launch) (g : GG) (sz : Nat) (h0 : Nat) : Met l yX0_init (wG (.code yX0_init cX0_init 1 none)) (RmC 1 3 120) (CPre g sz [(h0, .inr (0, [.int 0, .null, .null, .null]))] [.ref h0]) (va_Qv (fun _ : Nat → Nat => True) (fun u t => va_P g.1 vwCl ([(h0, .inr (0, [.int 0, .ref (u 1), .ref (u 2), .ref (u 3)])), (u 1, .inl (g.2 0, 40, .inl zf)), (u 2, .inl (g.2 0, 40, .inl zf)), (u 3, .inl (g.2 0, 40, .inl zf))]) t.heap ∧ va_D (va_A [(h0, .inr (0, [.int 0, .null, .null, .null]))] sz) ([(h0, .inr (0, [.int 0, .ref (u 1), .ref (u 2), .ref (u 3)])), (u 1, .inl (g.2 0, 40, .inl zf)), (u 2, .inl (g.2 0, 40, .inl zf)), (u 3, .inl (g.2 0, 40, .inl zf))])) (va_A [(h0, .inr (0, [.int 0, .null, .null, .null]))] sz)) 3 120 (va_A [(h0, .inr (0, [.int 0, .null, .null, .null]))] sz) := by
  refine cmet cX0_init "EbbWreck$Acts" (by decide) rfl rfl (Nat.le_of_ble_eq_true rfl) (fun p e s m below meth c E hr hlk hin hml hNW hsz hP hD ls hl => ?_)
  have hx := E.1
  have hb := E.2.1
  subst hsz
  generalize hAe : va_A [(h0, .inr (0, [.int 0, .null, .null, .null]))] s.heap.size = A at hD ⊢
  have hA : ∀ q : Nat, s.heap.size ≤ q → A q := fun q h => by rw [← hAe]; exact Or.inr h
  have hS : va_S A s.heap s.heap [] := va_S.rf
  have hP : va_P g.1 vwCl [(h0, .inr (0, [.int 0, .null, .null, .null]))] s.heap := hP
  have hl : lv_has ls 1 [(0, .ref h0)] := hl
  refine lv_aload_n hx hb dX0_init_0 rfl (lv_at hl 0 rfl) ?_
  refine cinit E hml hl.1 q214 dX0_init_1 (Nat.le_of_ble_eq_true rfl) (Nat.le_of_ble_eq_true rfl) ?_
  refine lv_aload_n hx hb dX0_init_4 rfl (lv_at hl 0 rfl) ?_
  refine lv_bipush (v := 40) hx hb dX0_init_5 (by decide) ?_
  refine cnewa (a0 := (40, .inl zf)) E hP hD hS hA 0 q179 rfl rfl (fun _ h => h) (fun _ => rfl) (by decide) rfl (by decide) (Nat.le_of_ble_eq_true rfl) (Nat.le_of_ble_eq_true rfl) dX0_init_7 (fun q1 H hP hD hS => ?_)
  have hP : va_P g.1 vwCl [(h0, .inr (0, [.int 0, .null, .null, .null])), (q1, .inl (g.2 0, 40, .inl zf))] H := hP
  have hD : va_D A [(h0, .inr (0, [.int 0, .null, .null, .null])), (q1, .inl (g.2 0, 40, .inl zf))] := hD
  refine cputF (ty := .array .int) (v := .ref q1) E hin hP hD hS 0 rfl rfl 1 (by decide) q219 rfl rfl (by decide +kernel) rfl rfl (Nat.le_of_ble_eq_true rfl) dX0_init_9 (fun H locs hP hD hS => ?_)
  have hP : va_P g.1 vwCl [(h0, .inr (0, [.int 0, .ref q1, .null, .null])), (q1, .inl (g.2 0, 40, .inl zf))] H := hP
  have hD : va_D A [(h0, .inr (0, [.int 0, .ref q1, .null, .null])), (q1, .inl (g.2 0, 40, .inl zf))] := hD
  refine lv_aload_n hx hb dX0_init_12 rfl (lv_at hl 0 rfl) ?_
  refine lv_bipush (v := 40) hx hb dX0_init_13 (by decide) ?_
  refine cnewa (a0 := (40, .inl zf)) E hP hD hS hA 0 q179 rfl rfl (fun _ h => h) (fun _ => rfl) (by decide) rfl (by decide) (Nat.le_of_ble_eq_true rfl) (Nat.le_of_ble_eq_true rfl) dX0_init_15 (fun q2 H hP hD hS => ?_)
  have hP : va_P g.1 vwCl [(h0, .inr (0, [.int 0, .ref q1, .null, .null])), (q1, .inl (g.2 0, 40, .inl zf)), (q2, .inl (g.2 0, 40, .inl zf))] H := hP
  have hD : va_D A [(h0, .inr (0, [.int 0, .ref q1, .null, .null])), (q1, .inl (g.2 0, 40, .inl zf)), (q2, .inl (g.2 0, 40, .inl zf))] := hD
  refine cputF (ty := .array .int) (v := .ref q2) E hin hP hD hS 0 rfl rfl 2 (by decide) q222 rfl rfl (by decide +kernel) rfl rfl (Nat.le_of_ble_eq_true rfl) dX0_init_17 (fun H locs hP hD hS => ?_)
  have hP : va_P g.1 vwCl [(h0, .inr (0, [.int 0, .ref q1, .ref q2, .null])), (q1, .inl (g.2 0, 40, .inl zf)), (q2, .inl (g.2 0, 40, .inl zf))] H := hP
  have hD : va_D A [(h0, .inr (0, [.int 0, .ref q1, .ref q2, .null])), (q1, .inl (g.2 0, 40, .inl zf)), (q2, .inl (g.2 0, 40, .inl zf))] := hD
  refine lv_aload_n hx hb dX0_init_20 rfl (lv_at hl 0 rfl) ?_
  refine lv_bipush (v := 40) hx hb dX0_init_21 (by decide) ?_
  refine cnewa (a0 := (40, .inl zf)) E hP hD hS hA 0 q179 rfl rfl (fun _ h => h) (fun _ => rfl) (by decide) rfl (by decide) (Nat.le_of_ble_eq_true rfl) (Nat.le_of_ble_eq_true rfl) dX0_init_23 (fun q3 H hP hD hS => ?_)
  have hP : va_P g.1 vwCl [(h0, .inr (0, [.int 0, .ref q1, .ref q2, .null])), (q1, .inl (g.2 0, 40, .inl zf)), (q2, .inl (g.2 0, 40, .inl zf)), (q3, .inl (g.2 0, 40, .inl zf))] H := hP
  have hD : va_D A [(h0, .inr (0, [.int 0, .ref q1, .ref q2, .null])), (q1, .inl (g.2 0, 40, .inl zf)), (q2, .inl (g.2 0, 40, .inl zf)), (q3, .inl (g.2 0, 40, .inl zf))] := hD
  refine cputF (ty := .array .int) (v := .ref q3) E hin hP hD hS 0 rfl rfl 3 (by decide) q224 rfl rfl (by decide +kernel) rfl rfl (Nat.le_of_ble_eq_true rfl) dX0_init_25 (fun H locs hP hD hS => ?_)
  have hP : va_P g.1 vwCl [(h0, .inr (0, [.int 0, .ref q1, .ref q2, .ref q3])), (q1, .inl (g.2 0, 40, .inl zf)), (q2, .inl (g.2 0, 40, .inl zf)), (q3, .inl (g.2 0, 40, .inl zf))] H := hP
  have hD : va_D A [(h0, .inr (0, [.int 0, .ref q1, .ref q2, .ref q3])), (q1, .inl (g.2 0, 40, .inl zf)), (q2, .inl (g.2 0, 40, .inl zf)), (q3, .inl (g.2 0, 40, .inl zf))] := hD
  refine W.widen (k := 3) (n := 120) (Nat.le_of_ble_eq_true rfl) (Nat.le_of_ble_eq_true rfl) ?_
  exact W.vret hx hb hr (fun t ht hW => ⟨⟨adL [h0, q1, q2, q3], rfl, trivial, by rw [ht]; exact hP, hD⟩, hS.F ht⟩) hS.2.2 dX0_init_28 hlk
set_option maxHeartbeats 8000000 in
set_option maxRecDepth 100000 in
theorem kCoast (l : Launch) (g : GG) (sz : Nat) (h0 : Nat) : Met l yX1_init (wG (.code yX1_init cX1_init 1 none)) (RmC 2 17 245) (CPre g sz [(h0, .inr (1, (.int 0 :: .int 0 :: .int 0 :: .null :: .null :: .null :: .int 0 :: .int 0 :: .null :: .null :: .null :: .null :: .int 0 :: .null :: .null :: [])))] [.ref h0]) (va_Qv (fun _ : Nat → Nat => True) (fun u t => va_P g.1 vwCl ([(h0, .inr (1, (.int 0 :: .int 0 :: .int 0 :: .ref (u 1) :: .ref (u 3) :: .ref (u 4) :: .int 0 :: .int 0 :: .ref (u 5) :: .ref (u 6) :: .ref (u 7) :: .ref (u 8) :: .int 0 :: .ref (u 13) :: .ref (u 14) :: []))), (u 1, .inr (10, [.int 0, .int 0, .int 0, .int 0, .ref (u 2)])), (u 2, .inl (g.2 0, 36, .inl zf)), (u 3, .inl (g.2 0, 12, .inl zf)), (u 4, .inl (g.2 0, 12, .inl zf)), (u 5, .inl (g.2 0, 8, .inl zf)), (u 6, .inl (g.2 0, 8, .inl zf)), (u 7, .inl (g.2 0, 8, .inl zf)), (u 8, .inr (6, [.int 0, .ref (u 9), .ref (u 10), .ref (u 11), .ref (u 12)])), (u 9, .inl (g.2 0, 6, .inl zf)), (u 10, .inl (g.2 0, 6, .inl zf)), (u 11, .inl (g.2 0, 6, .inl zf)), (u 12, .inl (g.2 0, 6, .inl zf)), (u 13, .inl (g.2 0, 3, .inl zf)), (u 14, .inr (0, [.int 0, .ref (u 15), .ref (u 16), .ref (u 17)])), (u 15, .inl (g.2 0, 40, .inl zf)), (u 16, .inl (g.2 0, 40, .inl zf)), (u 17, .inl (g.2 0, 40, .inl zf))]) t.heap ∧ va_D (va_A [(h0, .inr (1, (.int 0 :: .int 0 :: .int 0 :: .null :: .null :: .null :: .int 0 :: .int 0 :: .null :: .null :: .null :: .null :: .int 0 :: .null :: .null :: [])))] sz) ([(h0, .inr (1, (.int 0 :: .int 0 :: .int 0 :: .ref (u 1) :: .ref (u 3) :: .ref (u 4) :: .int 0 :: .int 0 :: .ref (u 5) :: .ref (u 6) :: .ref (u 7) :: .ref (u 8) :: .int 0 :: .ref (u 13) :: .ref (u 14) :: []))), (u 1, .inr (10, [.int 0, .int 0, .int 0, .int 0, .ref (u 2)])), (u 2, .inl (g.2 0, 36, .inl zf)), (u 3, .inl (g.2 0, 12, .inl zf)), (u 4, .inl (g.2 0, 12, .inl zf)), (u 5, .inl (g.2 0, 8, .inl zf)), (u 6, .inl (g.2 0, 8, .inl zf)), (u 7, .inl (g.2 0, 8, .inl zf)), (u 8, .inr (6, [.int 0, .ref (u 9), .ref (u 10), .ref (u 11), .ref (u 12)])), (u 9, .inl (g.2 0, 6, .inl zf)), (u 10, .inl (g.2 0, 6, .inl zf)), (u 11, .inl (g.2 0, 6, .inl zf)), (u 12, .inl (g.2 0, 6, .inl zf)), (u 13, .inl (g.2 0, 3, .inl zf)), (u 14, .inr (0, [.int 0, .ref (u 15), .ref (u 16), .ref (u 17)])), (u 15, .inl (g.2 0, 40, .inl zf)), (u 16, .inl (g.2 0, 40, .inl zf)), (u 17, .inl (g.2 0, 40, .inl zf))])) (va_A [(h0, .inr (1, (.int 0 :: .int 0 :: .int 0 :: .null :: .null :: .null :: .int 0 :: .int 0 :: .null :: .null :: .null :: .null :: .int 0 :: .null :: .null :: [])))] sz)) 17 245 (va_A [(h0, .inr (1, (.int 0 :: .int 0 :: .int 0 :: .null :: .null :: .null :: .int 0 :: .int 0 :: .null :: .null :: .null :: .null :: .int 0 :: .null :: .null :: [])))] sz) := by
  refine cmet cX1_init "EbbWreck$Coast" (by decide) rfl rfl (Nat.le_of_ble_eq_true rfl) (fun p e s m below meth c E hr hlk hin hml hNW hsz hP hD ls hl => ?_)
  have hx := E.1
  have hb := E.2.1
  subst hsz
  generalize hAe : va_A [(h0, .inr (1, (.int 0 :: .int 0 :: .int 0 :: .null :: .null :: .null :: .int 0 :: .int 0 :: .null :: .null :: .null :: .null :: .int 0 :: .null :: .null :: [])))] s.heap.size = A at hD ⊢
  have hA : ∀ q : Nat, s.heap.size ≤ q → A q := fun q h => by rw [← hAe]; exact Or.inr h
  have hS : va_S A s.heap s.heap [] := va_S.rf
  have hP : va_P g.1 vwCl [(h0, .inr (1, (.int 0 :: .int 0 :: .int 0 :: .null :: .null :: .null :: .int 0 :: .int 0 :: .null :: .null :: .null :: .null :: .int 0 :: .null :: .null :: [])))] s.heap := hP
  have hl : lv_has ls 1 [(0, .ref h0)] := hl
  refine lv_aload_n hx hb dX1_init_0 rfl (lv_at hl 0 rfl) ?_
  refine cinit E hml hl.1 q148 dX1_init_1 (Nat.le_of_ble_eq_true rfl) (Nat.le_of_ble_eq_true rfl) ?_
  refine lv_aload_n hx hb dX1_init_4 rfl (lv_at hl 0 rfl) ?_
  refine cnew (ci := 10) (fs := [.int 0, .int 0, .int 0, .int 0, .null]) E hP hD hS hA rfl q149 q150 q116 tyX10 tyX10_ok (fun j hj => by rcases (show j = 0 ∨ j = 1 ∨ j = 2 ∨ j = 3 ∨ j = 4 by omega) with rfl | rfl | rfl | rfl | rfl <;> rfl) (Nat.le_of_ble_eq_true rfl) (Nat.le_of_ble_eq_true rfl) dX1_init_5 (fun q1 H hP hD hS => ?_)
  have hP : va_P g.1 vwCl [(h0, .inr (1, (.int 0 :: .int 0 :: .int 0 :: .null :: .null :: .null :: .int 0 :: .int 0 :: .null :: .null :: .null :: .null :: .int 0 :: .null :: .null :: []))), (q1, .inr (10, [.int 0, .int 0, .int 0, .int 0, .null]))] H := hP
  have hD : va_D A [(h0, .inr (1, (.int 0 :: .int 0 :: .int 0 :: .null :: .null :: .null :: .int 0 :: .int 0 :: .null :: .null :: .null :: .null :: .int 0 :: .null :: .null :: []))), (q1, .inr (10, [.int 0, .int 0, .int 0, .int 0, .null]))] := hD
  refine lv_dup hx hb dX1_init_8 rfl ?_
  refine ccN (n := 0) (wr := [(h0, .inr (1, (.int 0 :: .int 0 :: .int 0 :: .null :: .null :: .null :: .int 0 :: .int 0 :: .null :: .null :: .null :: .null :: .int 0 :: .null :: .null :: [])))]) (As := []) (rest := [.ref q1, .ref h0]) E hNW hml hl.1 hP hD hS hA (kTide l g H.size q1 ) hNW.2.1 q152 q153 q116 rfl rfl rfl ⟨by decide, by decide, by decide +kernel⟩ rfl ⟨(Nat.le_of_ble_eq_true rfl), (Nat.le_of_ble_eq_true rfl)⟩ ⟨(Nat.le_of_ble_eq_true rfl), (Nat.le_of_ble_eq_true rfl)⟩ (Nat.le_of_ble_eq_true rfl) rfl dX1_init_9 (fun u2 H locs hP hD hS _ => ?_)
  have hP : va_P g.1 vwCl [(h0, .inr (1, (.int 0 :: .int 0 :: .int 0 :: .null :: .null :: .null :: .int 0 :: .int 0 :: .null :: .null :: .null :: .null :: .int 0 :: .null :: .null :: []))), (q1, .inr (10, [.int 0, .int 0, .int 0, .int 0, .ref (u2 1)])), (u2 1, .inl (g.2 0, 36, .inl zf))] H := hP
  have hD : va_D A [(h0, .inr (1, (.int 0 :: .int 0 :: .int 0 :: .null :: .null :: .null :: .int 0 :: .int 0 :: .null :: .null :: .null :: .null :: .int 0 :: .null :: .null :: []))), (q1, .inr (10, [.int 0, .int 0, .int 0, .int 0, .ref (u2 1)])), (u2 1, .inl (g.2 0, 36, .inl zf))] := hD
  refine cputF (ty := .object "EbbWreck$Tide") (v := .ref q1) E hin hP hD hS 0 rfl rfl 3 (by decide) q251 rfl rfl (by decide +kernel) rfl rfl (Nat.le_of_ble_eq_true rfl) dX1_init_12 (fun H locs hP hD hS => ?_)
  have hP : va_P g.1 vwCl [(h0, .inr (1, (.int 0 :: .int 0 :: .int 0 :: .ref q1 :: .null :: .null :: .int 0 :: .int 0 :: .null :: .null :: .null :: .null :: .int 0 :: .null :: .null :: []))), (q1, .inr (10, [.int 0, .int 0, .int 0, .int 0, .ref (u2 1)])), (u2 1, .inl (g.2 0, 36, .inl zf))] H := hP
  have hD : va_D A [(h0, .inr (1, (.int 0 :: .int 0 :: .int 0 :: .ref q1 :: .null :: .null :: .int 0 :: .int 0 :: .null :: .null :: .null :: .null :: .int 0 :: .null :: .null :: []))), (q1, .inr (10, [.int 0, .int 0, .int 0, .int 0, .ref (u2 1)])), (u2 1, .inl (g.2 0, 36, .inl zf))] := hD
  refine lv_aload_n hx hb dX1_init_15 rfl (lv_at hl 0 rfl) ?_
  refine lv_bipush (v := 12) hx hb dX1_init_16 (by decide) ?_
  refine cnewa (a0 := (12, .inl zf)) E hP hD hS hA 0 q179 rfl rfl (fun _ h => h) (fun _ => rfl) (by decide) rfl (by decide) (Nat.le_of_ble_eq_true rfl) (Nat.le_of_ble_eq_true rfl) dX1_init_18 (fun q3 H hP hD hS => ?_)
  have hP : va_P g.1 vwCl [(h0, .inr (1, (.int 0 :: .int 0 :: .int 0 :: .ref q1 :: .null :: .null :: .int 0 :: .int 0 :: .null :: .null :: .null :: .null :: .int 0 :: .null :: .null :: []))), (q1, .inr (10, [.int 0, .int 0, .int 0, .int 0, .ref (u2 1)])), (u2 1, .inl (g.2 0, 36, .inl zf)), (q3, .inl (g.2 0, 12, .inl zf))] H := hP
  have hD : va_D A [(h0, .inr (1, (.int 0 :: .int 0 :: .int 0 :: .ref q1 :: .null :: .null :: .int 0 :: .int 0 :: .null :: .null :: .null :: .null :: .int 0 :: .null :: .null :: []))), (q1, .inr (10, [.int 0, .int 0, .int 0, .int 0, .ref (u2 1)])), (u2 1, .inl (g.2 0, 36, .inl zf)), (q3, .inl (g.2 0, 12, .inl zf))] := hD
  refine cputF (ty := .array .int) (v := .ref q3) E hin hP hD hS 0 rfl rfl 4 (by decide) q257 rfl rfl (by decide +kernel) rfl rfl (Nat.le_of_ble_eq_true rfl) dX1_init_20 (fun H locs hP hD hS => ?_)
  have hP : va_P g.1 vwCl [(h0, .inr (1, (.int 0 :: .int 0 :: .int 0 :: .ref q1 :: .ref q3 :: .null :: .int 0 :: .int 0 :: .null :: .null :: .null :: .null :: .int 0 :: .null :: .null :: []))), (q1, .inr (10, [.int 0, .int 0, .int 0, .int 0, .ref (u2 1)])), (u2 1, .inl (g.2 0, 36, .inl zf)), (q3, .inl (g.2 0, 12, .inl zf))] H := hP
  have hD : va_D A [(h0, .inr (1, (.int 0 :: .int 0 :: .int 0 :: .ref q1 :: .ref q3 :: .null :: .int 0 :: .int 0 :: .null :: .null :: .null :: .null :: .int 0 :: .null :: .null :: []))), (q1, .inr (10, [.int 0, .int 0, .int 0, .int 0, .ref (u2 1)])), (u2 1, .inl (g.2 0, 36, .inl zf)), (q3, .inl (g.2 0, 12, .inl zf))] := hD
  refine lv_aload_n hx hb dX1_init_23 rfl (lv_at hl 0 rfl) ?_
  refine lv_bipush (v := 12) hx hb dX1_init_24 (by decide) ?_
  refine cnewa (a0 := (12, .inl zf)) E hP hD hS hA 0 q179 rfl rfl (fun _ h => h) (fun _ => rfl) (by decide) rfl (by decide) (Nat.le_of_ble_eq_true rfl) (Nat.le_of_ble_eq_true rfl) dX1_init_26 (fun q4 H hP hD hS => ?_)
  have hP : va_P g.1 vwCl [(h0, .inr (1, (.int 0 :: .int 0 :: .int 0 :: .ref q1 :: .ref q3 :: .null :: .int 0 :: .int 0 :: .null :: .null :: .null :: .null :: .int 0 :: .null :: .null :: []))), (q1, .inr (10, [.int 0, .int 0, .int 0, .int 0, .ref (u2 1)])), (u2 1, .inl (g.2 0, 36, .inl zf)), (q3, .inl (g.2 0, 12, .inl zf)), (q4, .inl (g.2 0, 12, .inl zf))] H := hP
  have hD : va_D A [(h0, .inr (1, (.int 0 :: .int 0 :: .int 0 :: .ref q1 :: .ref q3 :: .null :: .int 0 :: .int 0 :: .null :: .null :: .null :: .null :: .int 0 :: .null :: .null :: []))), (q1, .inr (10, [.int 0, .int 0, .int 0, .int 0, .ref (u2 1)])), (u2 1, .inl (g.2 0, 36, .inl zf)), (q3, .inl (g.2 0, 12, .inl zf)), (q4, .inl (g.2 0, 12, .inl zf))] := hD
  refine cputF (ty := .array .int) (v := .ref q4) E hin hP hD hS 0 rfl rfl 5 (by decide) q260 rfl rfl (by decide +kernel) rfl rfl (Nat.le_of_ble_eq_true rfl) dX1_init_28 (fun H locs hP hD hS => ?_)
  have hP : va_P g.1 vwCl [(h0, .inr (1, (.int 0 :: .int 0 :: .int 0 :: .ref q1 :: .ref q3 :: .ref q4 :: .int 0 :: .int 0 :: .null :: .null :: .null :: .null :: .int 0 :: .null :: .null :: []))), (q1, .inr (10, [.int 0, .int 0, .int 0, .int 0, .ref (u2 1)])), (u2 1, .inl (g.2 0, 36, .inl zf)), (q3, .inl (g.2 0, 12, .inl zf)), (q4, .inl (g.2 0, 12, .inl zf))] H := hP
  have hD : va_D A [(h0, .inr (1, (.int 0 :: .int 0 :: .int 0 :: .ref q1 :: .ref q3 :: .ref q4 :: .int 0 :: .int 0 :: .null :: .null :: .null :: .null :: .int 0 :: .null :: .null :: []))), (q1, .inr (10, [.int 0, .int 0, .int 0, .int 0, .ref (u2 1)])), (u2 1, .inl (g.2 0, 36, .inl zf)), (q3, .inl (g.2 0, 12, .inl zf)), (q4, .inl (g.2 0, 12, .inl zf))] := hD
  refine lv_aload_n hx hb dX1_init_31 rfl (lv_at hl 0 rfl) ?_
  refine lv_bipush (v := 8) hx hb dX1_init_32 (by decide) ?_
  refine cnewa (a0 := (8, .inl zf)) E hP hD hS hA 0 q179 rfl rfl (fun _ h => h) (fun _ => rfl) (by decide) rfl (by decide) (Nat.le_of_ble_eq_true rfl) (Nat.le_of_ble_eq_true rfl) dX1_init_34 (fun q5 H hP hD hS => ?_)
  have hP : va_P g.1 vwCl [(h0, .inr (1, (.int 0 :: .int 0 :: .int 0 :: .ref q1 :: .ref q3 :: .ref q4 :: .int 0 :: .int 0 :: .null :: .null :: .null :: .null :: .int 0 :: .null :: .null :: []))), (q1, .inr (10, [.int 0, .int 0, .int 0, .int 0, .ref (u2 1)])), (u2 1, .inl (g.2 0, 36, .inl zf)), (q3, .inl (g.2 0, 12, .inl zf)), (q4, .inl (g.2 0, 12, .inl zf)), (q5, .inl (g.2 0, 8, .inl zf))] H := hP
  have hD : va_D A [(h0, .inr (1, (.int 0 :: .int 0 :: .int 0 :: .ref q1 :: .ref q3 :: .ref q4 :: .int 0 :: .int 0 :: .null :: .null :: .null :: .null :: .int 0 :: .null :: .null :: []))), (q1, .inr (10, [.int 0, .int 0, .int 0, .int 0, .ref (u2 1)])), (u2 1, .inl (g.2 0, 36, .inl zf)), (q3, .inl (g.2 0, 12, .inl zf)), (q4, .inl (g.2 0, 12, .inl zf)), (q5, .inl (g.2 0, 8, .inl zf))] := hD
  refine cputF (ty := .array .int) (v := .ref q5) E hin hP hD hS 0 rfl rfl 8 (by decide) q274 rfl rfl (by decide +kernel) rfl rfl (Nat.le_of_ble_eq_true rfl) dX1_init_36 (fun H locs hP hD hS => ?_)
  have hP : va_P g.1 vwCl [(h0, .inr (1, (.int 0 :: .int 0 :: .int 0 :: .ref q1 :: .ref q3 :: .ref q4 :: .int 0 :: .int 0 :: .ref q5 :: .null :: .null :: .null :: .int 0 :: .null :: .null :: []))), (q1, .inr (10, [.int 0, .int 0, .int 0, .int 0, .ref (u2 1)])), (u2 1, .inl (g.2 0, 36, .inl zf)), (q3, .inl (g.2 0, 12, .inl zf)), (q4, .inl (g.2 0, 12, .inl zf)), (q5, .inl (g.2 0, 8, .inl zf))] H := hP
  have hD : va_D A [(h0, .inr (1, (.int 0 :: .int 0 :: .int 0 :: .ref q1 :: .ref q3 :: .ref q4 :: .int 0 :: .int 0 :: .ref q5 :: .null :: .null :: .null :: .int 0 :: .null :: .null :: []))), (q1, .inr (10, [.int 0, .int 0, .int 0, .int 0, .ref (u2 1)])), (u2 1, .inl (g.2 0, 36, .inl zf)), (q3, .inl (g.2 0, 12, .inl zf)), (q4, .inl (g.2 0, 12, .inl zf)), (q5, .inl (g.2 0, 8, .inl zf))] := hD
  refine lv_aload_n hx hb dX1_init_39 rfl (lv_at hl 0 rfl) ?_
  refine lv_bipush (v := 8) hx hb dX1_init_40 (by decide) ?_
  refine cnewa (a0 := (8, .inl zf)) E hP hD hS hA 0 q179 rfl rfl (fun _ h => h) (fun _ => rfl) (by decide) rfl (by decide) (Nat.le_of_ble_eq_true rfl) (Nat.le_of_ble_eq_true rfl) dX1_init_42 (fun q6 H hP hD hS => ?_)
  have hP : va_P g.1 vwCl [(h0, .inr (1, (.int 0 :: .int 0 :: .int 0 :: .ref q1 :: .ref q3 :: .ref q4 :: .int 0 :: .int 0 :: .ref q5 :: .null :: .null :: .null :: .int 0 :: .null :: .null :: []))), (q1, .inr (10, [.int 0, .int 0, .int 0, .int 0, .ref (u2 1)])), (u2 1, .inl (g.2 0, 36, .inl zf)), (q3, .inl (g.2 0, 12, .inl zf)), (q4, .inl (g.2 0, 12, .inl zf)), (q5, .inl (g.2 0, 8, .inl zf)), (q6, .inl (g.2 0, 8, .inl zf))] H := hP
  have hD : va_D A [(h0, .inr (1, (.int 0 :: .int 0 :: .int 0 :: .ref q1 :: .ref q3 :: .ref q4 :: .int 0 :: .int 0 :: .ref q5 :: .null :: .null :: .null :: .int 0 :: .null :: .null :: []))), (q1, .inr (10, [.int 0, .int 0, .int 0, .int 0, .ref (u2 1)])), (u2 1, .inl (g.2 0, 36, .inl zf)), (q3, .inl (g.2 0, 12, .inl zf)), (q4, .inl (g.2 0, 12, .inl zf)), (q5, .inl (g.2 0, 8, .inl zf)), (q6, .inl (g.2 0, 8, .inl zf))] := hD
  refine cputF (ty := .array .int) (v := .ref q6) E hin hP hD hS 0 rfl rfl 9 (by decide) q279 rfl rfl (by decide +kernel) rfl rfl (Nat.le_of_ble_eq_true rfl) dX1_init_44 (fun H locs hP hD hS => ?_)
  have hP : va_P g.1 vwCl [(h0, .inr (1, (.int 0 :: .int 0 :: .int 0 :: .ref q1 :: .ref q3 :: .ref q4 :: .int 0 :: .int 0 :: .ref q5 :: .ref q6 :: .null :: .null :: .int 0 :: .null :: .null :: []))), (q1, .inr (10, [.int 0, .int 0, .int 0, .int 0, .ref (u2 1)])), (u2 1, .inl (g.2 0, 36, .inl zf)), (q3, .inl (g.2 0, 12, .inl zf)), (q4, .inl (g.2 0, 12, .inl zf)), (q5, .inl (g.2 0, 8, .inl zf)), (q6, .inl (g.2 0, 8, .inl zf))] H := hP
  have hD : va_D A [(h0, .inr (1, (.int 0 :: .int 0 :: .int 0 :: .ref q1 :: .ref q3 :: .ref q4 :: .int 0 :: .int 0 :: .ref q5 :: .ref q6 :: .null :: .null :: .int 0 :: .null :: .null :: []))), (q1, .inr (10, [.int 0, .int 0, .int 0, .int 0, .ref (u2 1)])), (u2 1, .inl (g.2 0, 36, .inl zf)), (q3, .inl (g.2 0, 12, .inl zf)), (q4, .inl (g.2 0, 12, .inl zf)), (q5, .inl (g.2 0, 8, .inl zf)), (q6, .inl (g.2 0, 8, .inl zf))] := hD
  refine lv_aload_n hx hb dX1_init_47 rfl (lv_at hl 0 rfl) ?_
  refine lv_bipush (v := 8) hx hb dX1_init_48 (by decide) ?_
  refine cnewa (a0 := (8, .inl zf)) E hP hD hS hA 0 q179 rfl rfl (fun _ h => h) (fun _ => rfl) (by decide) rfl (by decide) (Nat.le_of_ble_eq_true rfl) (Nat.le_of_ble_eq_true rfl) dX1_init_50 (fun q7 H hP hD hS => ?_)
  have hP : va_P g.1 vwCl [(h0, .inr (1, (.int 0 :: .int 0 :: .int 0 :: .ref q1 :: .ref q3 :: .ref q4 :: .int 0 :: .int 0 :: .ref q5 :: .ref q6 :: .null :: .null :: .int 0 :: .null :: .null :: []))), (q1, .inr (10, [.int 0, .int 0, .int 0, .int 0, .ref (u2 1)])), (u2 1, .inl (g.2 0, 36, .inl zf)), (q3, .inl (g.2 0, 12, .inl zf)), (q4, .inl (g.2 0, 12, .inl zf)), (q5, .inl (g.2 0, 8, .inl zf)), (q6, .inl (g.2 0, 8, .inl zf)), (q7, .inl (g.2 0, 8, .inl zf))] H := hP
  have hD : va_D A [(h0, .inr (1, (.int 0 :: .int 0 :: .int 0 :: .ref q1 :: .ref q3 :: .ref q4 :: .int 0 :: .int 0 :: .ref q5 :: .ref q6 :: .null :: .null :: .int 0 :: .null :: .null :: []))), (q1, .inr (10, [.int 0, .int 0, .int 0, .int 0, .ref (u2 1)])), (u2 1, .inl (g.2 0, 36, .inl zf)), (q3, .inl (g.2 0, 12, .inl zf)), (q4, .inl (g.2 0, 12, .inl zf)), (q5, .inl (g.2 0, 8, .inl zf)), (q6, .inl (g.2 0, 8, .inl zf)), (q7, .inl (g.2 0, 8, .inl zf))] := hD
  refine cputF (ty := .array .int) (v := .ref q7) E hin hP hD hS 0 rfl rfl 10 (by decide) q284 rfl rfl (by decide +kernel) rfl rfl (Nat.le_of_ble_eq_true rfl) dX1_init_52 (fun H locs hP hD hS => ?_)
  have hP : va_P g.1 vwCl [(h0, .inr (1, (.int 0 :: .int 0 :: .int 0 :: .ref q1 :: .ref q3 :: .ref q4 :: .int 0 :: .int 0 :: .ref q5 :: .ref q6 :: .ref q7 :: .null :: .int 0 :: .null :: .null :: []))), (q1, .inr (10, [.int 0, .int 0, .int 0, .int 0, .ref (u2 1)])), (u2 1, .inl (g.2 0, 36, .inl zf)), (q3, .inl (g.2 0, 12, .inl zf)), (q4, .inl (g.2 0, 12, .inl zf)), (q5, .inl (g.2 0, 8, .inl zf)), (q6, .inl (g.2 0, 8, .inl zf)), (q7, .inl (g.2 0, 8, .inl zf))] H := hP
  have hD : va_D A [(h0, .inr (1, (.int 0 :: .int 0 :: .int 0 :: .ref q1 :: .ref q3 :: .ref q4 :: .int 0 :: .int 0 :: .ref q5 :: .ref q6 :: .ref q7 :: .null :: .int 0 :: .null :: .null :: []))), (q1, .inr (10, [.int 0, .int 0, .int 0, .int 0, .ref (u2 1)])), (u2 1, .inl (g.2 0, 36, .inl zf)), (q3, .inl (g.2 0, 12, .inl zf)), (q4, .inl (g.2 0, 12, .inl zf)), (q5, .inl (g.2 0, 8, .inl zf)), (q6, .inl (g.2 0, 8, .inl zf)), (q7, .inl (g.2 0, 8, .inl zf))] := hD
  refine lv_aload_n hx hb dX1_init_55 rfl (lv_at hl 0 rfl) ?_
  refine cnew (ci := 6) (fs := [.int 0, .null, .null, .null, .null]) E hP hD hS hA rfl q180 q181 q117 tyX6 tyX6_ok (fun j hj => by rcases (show j = 0 ∨ j = 1 ∨ j = 2 ∨ j = 3 ∨ j = 4 by omega) with rfl | rfl | rfl | rfl | rfl <;> rfl) (Nat.le_of_ble_eq_true rfl) (Nat.le_of_ble_eq_true rfl) dX1_init_56 (fun q8 H hP hD hS => ?_)
  have hP : va_P g.1 vwCl [(h0, .inr (1, (.int 0 :: .int 0 :: .int 0 :: .ref q1 :: .ref q3 :: .ref q4 :: .int 0 :: .int 0 :: .ref q5 :: .ref q6 :: .ref q7 :: .null :: .int 0 :: .null :: .null :: []))), (q1, .inr (10, [.int 0, .int 0, .int 0, .int 0, .ref (u2 1)])), (u2 1, .inl (g.2 0, 36, .inl zf)), (q3, .inl (g.2 0, 12, .inl zf)), (q4, .inl (g.2 0, 12, .inl zf)), (q5, .inl (g.2 0, 8, .inl zf)), (q6, .inl (g.2 0, 8, .inl zf)), (q7, .inl (g.2 0, 8, .inl zf)), (q8, .inr (6, [.int 0, .null, .null, .null, .null]))] H := hP
  have hD : va_D A [(h0, .inr (1, (.int 0 :: .int 0 :: .int 0 :: .ref q1 :: .ref q3 :: .ref q4 :: .int 0 :: .int 0 :: .ref q5 :: .ref q6 :: .ref q7 :: .null :: .int 0 :: .null :: .null :: []))), (q1, .inr (10, [.int 0, .int 0, .int 0, .int 0, .ref (u2 1)])), (u2 1, .inl (g.2 0, 36, .inl zf)), (q3, .inl (g.2 0, 12, .inl zf)), (q4, .inl (g.2 0, 12, .inl zf)), (q5, .inl (g.2 0, 8, .inl zf)), (q6, .inl (g.2 0, 8, .inl zf)), (q7, .inl (g.2 0, 8, .inl zf)), (q8, .inr (6, [.int 0, .null, .null, .null, .null]))] := hD
  refine lv_dup hx hb dX1_init_59 rfl ?_
  refine ccN (n := 0) (wr := [(h0, .inr (1, (.int 0 :: .int 0 :: .int 0 :: .ref q1 :: .ref q3 :: .ref q4 :: .int 0 :: .int 0 :: .ref q5 :: .ref q6 :: .ref q7 :: .null :: .int 0 :: .null :: .null :: []))), (q1, .inr (10, [.int 0, .int 0, .int 0, .int 0, .ref (u2 1)])), (u2 1, .inl (g.2 0, 36, .inl zf)), (q3, .inl (g.2 0, 12, .inl zf)), (q4, .inl (g.2 0, 12, .inl zf)), (q5, .inl (g.2 0, 8, .inl zf)), (q6, .inl (g.2 0, 8, .inl zf)), (q7, .inl (g.2 0, 8, .inl zf))]) (As := []) (rest := [.ref q8, .ref h0]) E hNW hml hl.1 hP hD hS hA (kRules l g H.size q8 ) hNW.2.2.1 q183 q184 q117 rfl rfl rfl ⟨by decide, by decide, by decide +kernel⟩ rfl ⟨(Nat.le_of_ble_eq_true rfl), (Nat.le_of_ble_eq_true rfl)⟩ ⟨(Nat.le_of_ble_eq_true rfl), (Nat.le_of_ble_eq_true rfl)⟩ (Nat.le_of_ble_eq_true rfl) rfl dX1_init_60 (fun u9 H locs hP hD hS _ => ?_)
  have hP : va_P g.1 vwCl ((h0, .inr (1, (.int 0 :: .int 0 :: .int 0 :: .ref q1 :: .ref q3 :: .ref q4 :: .int 0 :: .int 0 :: .ref q5 :: .ref q6 :: .ref q7 :: .null :: .int 0 :: .null :: .null :: []))) :: (q1, .inr (10, [.int 0, .int 0, .int 0, .int 0, .ref (u2 1)])) :: (u2 1, .inl (g.2 0, 36, .inl zf)) :: (q3, .inl (g.2 0, 12, .inl zf)) :: (q4, .inl (g.2 0, 12, .inl zf)) :: (q5, .inl (g.2 0, 8, .inl zf)) :: (q6, .inl (g.2 0, 8, .inl zf)) :: (q7, .inl (g.2 0, 8, .inl zf)) :: (q8, .inr (6, [.int 0, .ref (u9 1), .ref (u9 2), .ref (u9 3), .ref (u9 4)])) :: (u9 1, .inl (g.2 0, 6, .inl zf)) :: (u9 2, .inl (g.2 0, 6, .inl zf)) :: (u9 3, .inl (g.2 0, 6, .inl zf)) :: (u9 4, .inl (g.2 0, 6, .inl zf)) :: []) H := hP
  have hD : va_D A ((h0, .inr (1, (.int 0 :: .int 0 :: .int 0 :: .ref q1 :: .ref q3 :: .ref q4 :: .int 0 :: .int 0 :: .ref q5 :: .ref q6 :: .ref q7 :: .null :: .int 0 :: .null :: .null :: []))) :: (q1, .inr (10, [.int 0, .int 0, .int 0, .int 0, .ref (u2 1)])) :: (u2 1, .inl (g.2 0, 36, .inl zf)) :: (q3, .inl (g.2 0, 12, .inl zf)) :: (q4, .inl (g.2 0, 12, .inl zf)) :: (q5, .inl (g.2 0, 8, .inl zf)) :: (q6, .inl (g.2 0, 8, .inl zf)) :: (q7, .inl (g.2 0, 8, .inl zf)) :: (q8, .inr (6, [.int 0, .ref (u9 1), .ref (u9 2), .ref (u9 3), .ref (u9 4)])) :: (u9 1, .inl (g.2 0, 6, .inl zf)) :: (u9 2, .inl (g.2 0, 6, .inl zf)) :: (u9 3, .inl (g.2 0, 6, .inl zf)) :: (u9 4, .inl (g.2 0, 6, .inl zf)) :: []) := hD
  refine cputF (ty := .object "EbbWreck$RuleBook") (v := .ref q8) E hin hP hD hS 0 rfl rfl 11 (by decide) q289 rfl rfl (by decide +kernel) rfl rfl (Nat.le_of_ble_eq_true rfl) dX1_init_63 (fun H locs hP hD hS => ?_)
  have hP : va_P g.1 vwCl ((h0, .inr (1, (.int 0 :: .int 0 :: .int 0 :: .ref q1 :: .ref q3 :: .ref q4 :: .int 0 :: .int 0 :: .ref q5 :: .ref q6 :: .ref q7 :: .ref q8 :: .int 0 :: .null :: .null :: []))) :: (q1, .inr (10, [.int 0, .int 0, .int 0, .int 0, .ref (u2 1)])) :: (u2 1, .inl (g.2 0, 36, .inl zf)) :: (q3, .inl (g.2 0, 12, .inl zf)) :: (q4, .inl (g.2 0, 12, .inl zf)) :: (q5, .inl (g.2 0, 8, .inl zf)) :: (q6, .inl (g.2 0, 8, .inl zf)) :: (q7, .inl (g.2 0, 8, .inl zf)) :: (q8, .inr (6, [.int 0, .ref (u9 1), .ref (u9 2), .ref (u9 3), .ref (u9 4)])) :: (u9 1, .inl (g.2 0, 6, .inl zf)) :: (u9 2, .inl (g.2 0, 6, .inl zf)) :: (u9 3, .inl (g.2 0, 6, .inl zf)) :: (u9 4, .inl (g.2 0, 6, .inl zf)) :: []) H := hP
  have hD : va_D A ((h0, .inr (1, (.int 0 :: .int 0 :: .int 0 :: .ref q1 :: .ref q3 :: .ref q4 :: .int 0 :: .int 0 :: .ref q5 :: .ref q6 :: .ref q7 :: .ref q8 :: .int 0 :: .null :: .null :: []))) :: (q1, .inr (10, [.int 0, .int 0, .int 0, .int 0, .ref (u2 1)])) :: (u2 1, .inl (g.2 0, 36, .inl zf)) :: (q3, .inl (g.2 0, 12, .inl zf)) :: (q4, .inl (g.2 0, 12, .inl zf)) :: (q5, .inl (g.2 0, 8, .inl zf)) :: (q6, .inl (g.2 0, 8, .inl zf)) :: (q7, .inl (g.2 0, 8, .inl zf)) :: (q8, .inr (6, [.int 0, .ref (u9 1), .ref (u9 2), .ref (u9 3), .ref (u9 4)])) :: (u9 1, .inl (g.2 0, 6, .inl zf)) :: (u9 2, .inl (g.2 0, 6, .inl zf)) :: (u9 3, .inl (g.2 0, 6, .inl zf)) :: (u9 4, .inl (g.2 0, 6, .inl zf)) :: []) := hD
  refine lv_aload_n hx hb dX1_init_66 rfl (lv_at hl 0 rfl) ?_
  refine lv_iconst (v := 3) hx hb dX1_init_67 (by decide) ?_
  refine cnewa (a0 := (3, .inl zf)) E hP hD hS hA 0 q179 rfl rfl (fun _ h => h) (fun _ => rfl) (by decide) rfl (by decide) (Nat.le_of_ble_eq_true rfl) (Nat.le_of_ble_eq_true rfl) dX1_init_68 (fun q10 H hP hD hS => ?_)
  have hP : va_P g.1 vwCl ((h0, .inr (1, (.int 0 :: .int 0 :: .int 0 :: .ref q1 :: .ref q3 :: .ref q4 :: .int 0 :: .int 0 :: .ref q5 :: .ref q6 :: .ref q7 :: .ref q8 :: .int 0 :: .null :: .null :: []))) :: (q1, .inr (10, [.int 0, .int 0, .int 0, .int 0, .ref (u2 1)])) :: (u2 1, .inl (g.2 0, 36, .inl zf)) :: (q3, .inl (g.2 0, 12, .inl zf)) :: (q4, .inl (g.2 0, 12, .inl zf)) :: (q5, .inl (g.2 0, 8, .inl zf)) :: (q6, .inl (g.2 0, 8, .inl zf)) :: (q7, .inl (g.2 0, 8, .inl zf)) :: (q8, .inr (6, [.int 0, .ref (u9 1), .ref (u9 2), .ref (u9 3), .ref (u9 4)])) :: (u9 1, .inl (g.2 0, 6, .inl zf)) :: (u9 2, .inl (g.2 0, 6, .inl zf)) :: (u9 3, .inl (g.2 0, 6, .inl zf)) :: (u9 4, .inl (g.2 0, 6, .inl zf)) :: (q10, .inl (g.2 0, 3, .inl zf)) :: []) H := hP
  have hD : va_D A ((h0, .inr (1, (.int 0 :: .int 0 :: .int 0 :: .ref q1 :: .ref q3 :: .ref q4 :: .int 0 :: .int 0 :: .ref q5 :: .ref q6 :: .ref q7 :: .ref q8 :: .int 0 :: .null :: .null :: []))) :: (q1, .inr (10, [.int 0, .int 0, .int 0, .int 0, .ref (u2 1)])) :: (u2 1, .inl (g.2 0, 36, .inl zf)) :: (q3, .inl (g.2 0, 12, .inl zf)) :: (q4, .inl (g.2 0, 12, .inl zf)) :: (q5, .inl (g.2 0, 8, .inl zf)) :: (q6, .inl (g.2 0, 8, .inl zf)) :: (q7, .inl (g.2 0, 8, .inl zf)) :: (q8, .inr (6, [.int 0, .ref (u9 1), .ref (u9 2), .ref (u9 3), .ref (u9 4)])) :: (u9 1, .inl (g.2 0, 6, .inl zf)) :: (u9 2, .inl (g.2 0, 6, .inl zf)) :: (u9 3, .inl (g.2 0, 6, .inl zf)) :: (u9 4, .inl (g.2 0, 6, .inl zf)) :: (q10, .inl (g.2 0, 3, .inl zf)) :: []) := hD
  refine cputF (ty := .array .int) (v := .ref q10) E hin hP hD hS 0 rfl rfl 13 (by decide) q297 rfl rfl (by decide +kernel) rfl rfl (Nat.le_of_ble_eq_true rfl) dX1_init_70 (fun H locs hP hD hS => ?_)
  have hP : va_P g.1 vwCl ((h0, .inr (1, (.int 0 :: .int 0 :: .int 0 :: .ref q1 :: .ref q3 :: .ref q4 :: .int 0 :: .int 0 :: .ref q5 :: .ref q6 :: .ref q7 :: .ref q8 :: .int 0 :: .ref q10 :: .null :: []))) :: (q1, .inr (10, [.int 0, .int 0, .int 0, .int 0, .ref (u2 1)])) :: (u2 1, .inl (g.2 0, 36, .inl zf)) :: (q3, .inl (g.2 0, 12, .inl zf)) :: (q4, .inl (g.2 0, 12, .inl zf)) :: (q5, .inl (g.2 0, 8, .inl zf)) :: (q6, .inl (g.2 0, 8, .inl zf)) :: (q7, .inl (g.2 0, 8, .inl zf)) :: (q8, .inr (6, [.int 0, .ref (u9 1), .ref (u9 2), .ref (u9 3), .ref (u9 4)])) :: (u9 1, .inl (g.2 0, 6, .inl zf)) :: (u9 2, .inl (g.2 0, 6, .inl zf)) :: (u9 3, .inl (g.2 0, 6, .inl zf)) :: (u9 4, .inl (g.2 0, 6, .inl zf)) :: (q10, .inl (g.2 0, 3, .inl zf)) :: []) H := hP
  have hD : va_D A ((h0, .inr (1, (.int 0 :: .int 0 :: .int 0 :: .ref q1 :: .ref q3 :: .ref q4 :: .int 0 :: .int 0 :: .ref q5 :: .ref q6 :: .ref q7 :: .ref q8 :: .int 0 :: .ref q10 :: .null :: []))) :: (q1, .inr (10, [.int 0, .int 0, .int 0, .int 0, .ref (u2 1)])) :: (u2 1, .inl (g.2 0, 36, .inl zf)) :: (q3, .inl (g.2 0, 12, .inl zf)) :: (q4, .inl (g.2 0, 12, .inl zf)) :: (q5, .inl (g.2 0, 8, .inl zf)) :: (q6, .inl (g.2 0, 8, .inl zf)) :: (q7, .inl (g.2 0, 8, .inl zf)) :: (q8, .inr (6, [.int 0, .ref (u9 1), .ref (u9 2), .ref (u9 3), .ref (u9 4)])) :: (u9 1, .inl (g.2 0, 6, .inl zf)) :: (u9 2, .inl (g.2 0, 6, .inl zf)) :: (u9 3, .inl (g.2 0, 6, .inl zf)) :: (u9 4, .inl (g.2 0, 6, .inl zf)) :: (q10, .inl (g.2 0, 3, .inl zf)) :: []) := hD
  refine lv_aload_n hx hb dX1_init_73 rfl (lv_at hl 0 rfl) ?_
  refine cnew (ci := 0) (fs := [.int 0, .null, .null, .null]) E hP hD hS hA rfl q209 q210 q118 tyX0 tyX0_ok (fun j hj => by rcases (show j = 0 ∨ j = 1 ∨ j = 2 ∨ j = 3 by omega) with rfl | rfl | rfl | rfl <;> rfl) (Nat.le_of_ble_eq_true rfl) (Nat.le_of_ble_eq_true rfl) dX1_init_74 (fun q11 H hP hD hS => ?_)
  have hP : va_P g.1 vwCl ((h0, .inr (1, (.int 0 :: .int 0 :: .int 0 :: .ref q1 :: .ref q3 :: .ref q4 :: .int 0 :: .int 0 :: .ref q5 :: .ref q6 :: .ref q7 :: .ref q8 :: .int 0 :: .ref q10 :: .null :: []))) :: (q1, .inr (10, [.int 0, .int 0, .int 0, .int 0, .ref (u2 1)])) :: (u2 1, .inl (g.2 0, 36, .inl zf)) :: (q3, .inl (g.2 0, 12, .inl zf)) :: (q4, .inl (g.2 0, 12, .inl zf)) :: (q5, .inl (g.2 0, 8, .inl zf)) :: (q6, .inl (g.2 0, 8, .inl zf)) :: (q7, .inl (g.2 0, 8, .inl zf)) :: (q8, .inr (6, [.int 0, .ref (u9 1), .ref (u9 2), .ref (u9 3), .ref (u9 4)])) :: (u9 1, .inl (g.2 0, 6, .inl zf)) :: (u9 2, .inl (g.2 0, 6, .inl zf)) :: (u9 3, .inl (g.2 0, 6, .inl zf)) :: (u9 4, .inl (g.2 0, 6, .inl zf)) :: (q10, .inl (g.2 0, 3, .inl zf)) :: (q11, .inr (0, [.int 0, .null, .null, .null])) :: []) H := hP
  have hD : va_D A ((h0, .inr (1, (.int 0 :: .int 0 :: .int 0 :: .ref q1 :: .ref q3 :: .ref q4 :: .int 0 :: .int 0 :: .ref q5 :: .ref q6 :: .ref q7 :: .ref q8 :: .int 0 :: .ref q10 :: .null :: []))) :: (q1, .inr (10, [.int 0, .int 0, .int 0, .int 0, .ref (u2 1)])) :: (u2 1, .inl (g.2 0, 36, .inl zf)) :: (q3, .inl (g.2 0, 12, .inl zf)) :: (q4, .inl (g.2 0, 12, .inl zf)) :: (q5, .inl (g.2 0, 8, .inl zf)) :: (q6, .inl (g.2 0, 8, .inl zf)) :: (q7, .inl (g.2 0, 8, .inl zf)) :: (q8, .inr (6, [.int 0, .ref (u9 1), .ref (u9 2), .ref (u9 3), .ref (u9 4)])) :: (u9 1, .inl (g.2 0, 6, .inl zf)) :: (u9 2, .inl (g.2 0, 6, .inl zf)) :: (u9 3, .inl (g.2 0, 6, .inl zf)) :: (u9 4, .inl (g.2 0, 6, .inl zf)) :: (q10, .inl (g.2 0, 3, .inl zf)) :: (q11, .inr (0, [.int 0, .null, .null, .null])) :: []) := hD
  refine lv_dup hx hb dX1_init_77 rfl ?_
  refine ccN (n := 0) (wr := ((h0, .inr (1, (.int 0 :: .int 0 :: .int 0 :: .ref q1 :: .ref q3 :: .ref q4 :: .int 0 :: .int 0 :: .ref q5 :: .ref q6 :: .ref q7 :: .ref q8 :: .int 0 :: .ref q10 :: .null :: []))) :: (q1, .inr (10, [.int 0, .int 0, .int 0, .int 0, .ref (u2 1)])) :: (u2 1, .inl (g.2 0, 36, .inl zf)) :: (q3, .inl (g.2 0, 12, .inl zf)) :: (q4, .inl (g.2 0, 12, .inl zf)) :: (q5, .inl (g.2 0, 8, .inl zf)) :: (q6, .inl (g.2 0, 8, .inl zf)) :: (q7, .inl (g.2 0, 8, .inl zf)) :: (q8, .inr (6, [.int 0, .ref (u9 1), .ref (u9 2), .ref (u9 3), .ref (u9 4)])) :: (u9 1, .inl (g.2 0, 6, .inl zf)) :: (u9 2, .inl (g.2 0, 6, .inl zf)) :: (u9 3, .inl (g.2 0, 6, .inl zf)) :: (u9 4, .inl (g.2 0, 6, .inl zf)) :: (q10, .inl (g.2 0, 3, .inl zf)) :: [])) (As := []) (rest := [.ref q11, .ref h0]) E hNW hml hl.1 hP hD hS hA (kActs l g H.size q11 ) hNW.2.2.2.1 q212 q213 q118 rfl rfl rfl ⟨by decide, by decide, by decide +kernel⟩ rfl ⟨(Nat.le_of_ble_eq_true rfl), (Nat.le_of_ble_eq_true rfl)⟩ ⟨(Nat.le_of_ble_eq_true rfl), (Nat.le_of_ble_eq_true rfl)⟩ (Nat.le_of_ble_eq_true rfl) rfl dX1_init_78 (fun u12 H locs hP hD hS _ => ?_)
  have hP : va_P g.1 vwCl ((h0, .inr (1, (.int 0 :: .int 0 :: .int 0 :: .ref q1 :: .ref q3 :: .ref q4 :: .int 0 :: .int 0 :: .ref q5 :: .ref q6 :: .ref q7 :: .ref q8 :: .int 0 :: .ref q10 :: .null :: []))) :: (q1, .inr (10, [.int 0, .int 0, .int 0, .int 0, .ref (u2 1)])) :: (u2 1, .inl (g.2 0, 36, .inl zf)) :: (q3, .inl (g.2 0, 12, .inl zf)) :: (q4, .inl (g.2 0, 12, .inl zf)) :: (q5, .inl (g.2 0, 8, .inl zf)) :: (q6, .inl (g.2 0, 8, .inl zf)) :: (q7, .inl (g.2 0, 8, .inl zf)) :: (q8, .inr (6, [.int 0, .ref (u9 1), .ref (u9 2), .ref (u9 3), .ref (u9 4)])) :: (u9 1, .inl (g.2 0, 6, .inl zf)) :: (u9 2, .inl (g.2 0, 6, .inl zf)) :: (u9 3, .inl (g.2 0, 6, .inl zf)) :: (u9 4, .inl (g.2 0, 6, .inl zf)) :: (q10, .inl (g.2 0, 3, .inl zf)) :: (q11, .inr (0, [.int 0, .ref (u12 1), .ref (u12 2), .ref (u12 3)])) :: (u12 1, .inl (g.2 0, 40, .inl zf)) :: (u12 2, .inl (g.2 0, 40, .inl zf)) :: (u12 3, .inl (g.2 0, 40, .inl zf)) :: []) H := hP
  have hD : va_D A ((h0, .inr (1, (.int 0 :: .int 0 :: .int 0 :: .ref q1 :: .ref q3 :: .ref q4 :: .int 0 :: .int 0 :: .ref q5 :: .ref q6 :: .ref q7 :: .ref q8 :: .int 0 :: .ref q10 :: .null :: []))) :: (q1, .inr (10, [.int 0, .int 0, .int 0, .int 0, .ref (u2 1)])) :: (u2 1, .inl (g.2 0, 36, .inl zf)) :: (q3, .inl (g.2 0, 12, .inl zf)) :: (q4, .inl (g.2 0, 12, .inl zf)) :: (q5, .inl (g.2 0, 8, .inl zf)) :: (q6, .inl (g.2 0, 8, .inl zf)) :: (q7, .inl (g.2 0, 8, .inl zf)) :: (q8, .inr (6, [.int 0, .ref (u9 1), .ref (u9 2), .ref (u9 3), .ref (u9 4)])) :: (u9 1, .inl (g.2 0, 6, .inl zf)) :: (u9 2, .inl (g.2 0, 6, .inl zf)) :: (u9 3, .inl (g.2 0, 6, .inl zf)) :: (u9 4, .inl (g.2 0, 6, .inl zf)) :: (q10, .inl (g.2 0, 3, .inl zf)) :: (q11, .inr (0, [.int 0, .ref (u12 1), .ref (u12 2), .ref (u12 3)])) :: (u12 1, .inl (g.2 0, 40, .inl zf)) :: (u12 2, .inl (g.2 0, 40, .inl zf)) :: (u12 3, .inl (g.2 0, 40, .inl zf)) :: []) := hD
  refine cputF (ty := .object "EbbWreck$Acts") (v := .ref q11) E hin hP hD hS 0 rfl rfl 14 (by decide) q301 rfl rfl (by decide +kernel) rfl rfl (Nat.le_of_ble_eq_true rfl) dX1_init_81 (fun H locs hP hD hS => ?_)
  have hP : va_P g.1 vwCl ((h0, .inr (1, (.int 0 :: .int 0 :: .int 0 :: .ref q1 :: .ref q3 :: .ref q4 :: .int 0 :: .int 0 :: .ref q5 :: .ref q6 :: .ref q7 :: .ref q8 :: .int 0 :: .ref q10 :: .ref q11 :: []))) :: (q1, .inr (10, [.int 0, .int 0, .int 0, .int 0, .ref (u2 1)])) :: (u2 1, .inl (g.2 0, 36, .inl zf)) :: (q3, .inl (g.2 0, 12, .inl zf)) :: (q4, .inl (g.2 0, 12, .inl zf)) :: (q5, .inl (g.2 0, 8, .inl zf)) :: (q6, .inl (g.2 0, 8, .inl zf)) :: (q7, .inl (g.2 0, 8, .inl zf)) :: (q8, .inr (6, [.int 0, .ref (u9 1), .ref (u9 2), .ref (u9 3), .ref (u9 4)])) :: (u9 1, .inl (g.2 0, 6, .inl zf)) :: (u9 2, .inl (g.2 0, 6, .inl zf)) :: (u9 3, .inl (g.2 0, 6, .inl zf)) :: (u9 4, .inl (g.2 0, 6, .inl zf)) :: (q10, .inl (g.2 0, 3, .inl zf)) :: (q11, .inr (0, [.int 0, .ref (u12 1), .ref (u12 2), .ref (u12 3)])) :: (u12 1, .inl (g.2 0, 40, .inl zf)) :: (u12 2, .inl (g.2 0, 40, .inl zf)) :: (u12 3, .inl (g.2 0, 40, .inl zf)) :: []) H := hP
  have hD : va_D A ((h0, .inr (1, (.int 0 :: .int 0 :: .int 0 :: .ref q1 :: .ref q3 :: .ref q4 :: .int 0 :: .int 0 :: .ref q5 :: .ref q6 :: .ref q7 :: .ref q8 :: .int 0 :: .ref q10 :: .ref q11 :: []))) :: (q1, .inr (10, [.int 0, .int 0, .int 0, .int 0, .ref (u2 1)])) :: (u2 1, .inl (g.2 0, 36, .inl zf)) :: (q3, .inl (g.2 0, 12, .inl zf)) :: (q4, .inl (g.2 0, 12, .inl zf)) :: (q5, .inl (g.2 0, 8, .inl zf)) :: (q6, .inl (g.2 0, 8, .inl zf)) :: (q7, .inl (g.2 0, 8, .inl zf)) :: (q8, .inr (6, [.int 0, .ref (u9 1), .ref (u9 2), .ref (u9 3), .ref (u9 4)])) :: (u9 1, .inl (g.2 0, 6, .inl zf)) :: (u9 2, .inl (g.2 0, 6, .inl zf)) :: (u9 3, .inl (g.2 0, 6, .inl zf)) :: (u9 4, .inl (g.2 0, 6, .inl zf)) :: (q10, .inl (g.2 0, 3, .inl zf)) :: (q11, .inr (0, [.int 0, .ref (u12 1), .ref (u12 2), .ref (u12 3)])) :: (u12 1, .inl (g.2 0, 40, .inl zf)) :: (u12 2, .inl (g.2 0, 40, .inl zf)) :: (u12 3, .inl (g.2 0, 40, .inl zf)) :: []) := hD
  refine W.widen (k := 17) (n := 245) (Nat.le_of_ble_eq_true rfl) (Nat.le_of_ble_eq_true rfl) ?_
  exact W.vret hx hb hr (fun t ht hW => ⟨⟨adL (h0 :: q1 :: u2 1 :: q3 :: q4 :: q5 :: q6 :: q7 :: q8 :: u9 1 :: u9 2 :: u9 3 :: u9 4 :: q10 :: q11 :: u12 1 :: u12 2 :: u12 3 :: []), rfl, trivial, by rw [ht]; exact hP, hD⟩, hS.F ht⟩) hS.2.2 dX1_init_84 hlk
set_option maxHeartbeats 8000000 in
set_option maxRecDepth 100000 in
theorem kReader (l : Launch) (g : GG) (sz : Nat) (h0 : Nat) (p1 : Nat) (p2 : Nat) : Met l yX5_init (wG (.code yX5_init cX5_init 3 none)) (RmC 1 0 0) (CPre g sz [(h0, .inr (5, [.null, .null, .int 0, .int 0, .int 0, .int 0, .int 0, .int 0, .int 0]))] [.ref h0, .ref p1, .ref p2]) (va_Qv (fun _ : Nat → Nat => True) (fun u t => va_P g.1 vwCl ([(h0, .inr (5, [.ref p1, .ref p2, .int 0, .int 0, .int 0, .int 0, .int 0, .int 0, .int 0]))]) t.heap ∧ va_D (va_A [(h0, .inr (5, [.null, .null, .int 0, .int 0, .int 0, .int 0, .int 0, .int 0, .int 0]))] sz) ([(h0, .inr (5, [.ref p1, .ref p2, .int 0, .int 0, .int 0, .int 0, .int 0, .int 0, .int 0]))])) (va_A [(h0, .inr (5, [.null, .null, .int 0, .int 0, .int 0, .int 0, .int 0, .int 0, .int 0]))] sz)) 0 0 (va_A [(h0, .inr (5, [.null, .null, .int 0, .int 0, .int 0, .int 0, .int 0, .int 0, .int 0]))] sz) := by
  refine cmet cX5_init "EbbWreck$Reader" (by decide) rfl rfl (Nat.le_of_ble_eq_true rfl) (fun p e s m below meth c E hr hlk hin hml hNW hsz hP hD ls hl => ?_)
  have hx := E.1
  have hb := E.2.1
  subst hsz
  generalize hAe : va_A [(h0, .inr (5, [.null, .null, .int 0, .int 0, .int 0, .int 0, .int 0, .int 0, .int 0]))] s.heap.size = A at hD ⊢
  have hA : ∀ q : Nat, s.heap.size ≤ q → A q := fun q h => by rw [← hAe]; exact Or.inr h
  have hS : va_S A s.heap s.heap [] := va_S.rf
  have hP : va_P g.1 vwCl [(h0, .inr (5, [.null, .null, .int 0, .int 0, .int 0, .int 0, .int 0, .int 0, .int 0]))] s.heap := hP
  have hl : lv_has ls 3 [(0, .ref h0), (1, .ref p1), (2, .ref p2)] := hl
  refine lv_aload_n hx hb dX5_init_0 rfl (lv_at hl 0 rfl) ?_
  refine cinit E hml hl.1 q341 dX5_init_1 (Nat.le_of_ble_eq_true rfl) (Nat.le_of_ble_eq_true rfl) ?_
  refine lv_aload_n hx hb dX5_init_4 rfl (lv_at hl 0 rfl) ?_
  refine lv_aload_n hx hb dX5_init_5 rfl (lv_at hl 1 rfl) ?_
  refine cputF (ty := .array .byte) (v := .ref p1) E hin hP hD hS 0 rfl rfl 0 (by decide) q342 rfl rfl (by decide +kernel) rfl rfl (Nat.le_of_ble_eq_true rfl) dX5_init_6 (fun H locs hP hD hS => ?_)
  have hP : va_P g.1 vwCl [(h0, .inr (5, [.ref p1, .null, .int 0, .int 0, .int 0, .int 0, .int 0, .int 0, .int 0]))] H := hP
  have hD : va_D A [(h0, .inr (5, [.ref p1, .null, .int 0, .int 0, .int 0, .int 0, .int 0, .int 0, .int 0]))] := hD
  refine lv_aload_n hx hb dX5_init_9 rfl (lv_at hl 0 rfl) ?_
  refine lv_aload_n hx hb dX5_init_10 rfl (lv_at hl 2 rfl) ?_
  refine cputF (ty := .object "EbbWreck$Coast") (v := .ref p2) E hin hP hD hS 0 rfl rfl 1 (by decide) q343 rfl rfl (by decide +kernel) rfl rfl (Nat.le_of_ble_eq_true rfl) dX5_init_11 (fun H locs hP hD hS => ?_)
  have hP : va_P g.1 vwCl [(h0, .inr (5, [.ref p1, .ref p2, .int 0, .int 0, .int 0, .int 0, .int 0, .int 0, .int 0]))] H := hP
  have hD : va_D A [(h0, .inr (5, [.ref p1, .ref p2, .int 0, .int 0, .int 0, .int 0, .int 0, .int 0, .int 0]))] := hD
  refine W.widen (k := 0) (n := 0) (Nat.le_of_ble_eq_true rfl) (Nat.le_of_ble_eq_true rfl) ?_
  exact W.vret hx hb hr (fun t ht hW => ⟨⟨adL [h0], rfl, trivial, by rw [ht]; exact hP, hD⟩, hS.F ht⟩) hS.2.2 dX5_init_14 hlk
set_option maxHeartbeats 8000000 in
set_option maxRecDepth 100000 in
theorem kDrift (l : Launch) (g : GG) (sz : Nat) (h0 : Nat) (p1 : Nat) : Met l yX2_init (wG (.code yX2_init cX2_init 2 none)) (RmC 1 6 1231) (CPre g sz [(h0, .inr (2, [.null, .null, .null, .null, .null, .null, .null, .int 0, .int 0]))] [.ref h0, .ref p1]) (va_Qv (fun _ : Nat → Nat => True) (fun u t => va_P g.1 vwCl ([(h0, .inr (2, [.ref p1, .ref (u 1), .ref (u 2), .ref (u 3), .ref (u 4), .ref (u 5), .ref (u 6), .int 0, .int 0])), (u 1, .inl (g.2 0, 8, .inl zf)), (u 2, .inl (g.2 0, 8, .inl zf)), (u 3, .inl (g.2 1, 401, .inl zf)), (u 4, .inl (g.2 0, 401, .inl zf)), (u 5, .inl (g.2 0, 401, .inl zf)), (u 6, .inl (g.2 0, 12, .inl zf))]) t.heap ∧ va_D (va_A [(h0, .inr (2, [.null, .null, .null, .null, .null, .null, .null, .int 0, .int 0]))] sz) ([(h0, .inr (2, [.ref p1, .ref (u 1), .ref (u 2), .ref (u 3), .ref (u 4), .ref (u 5), .ref (u 6), .int 0, .int 0])), (u 1, .inl (g.2 0, 8, .inl zf)), (u 2, .inl (g.2 0, 8, .inl zf)), (u 3, .inl (g.2 1, 401, .inl zf)), (u 4, .inl (g.2 0, 401, .inl zf)), (u 5, .inl (g.2 0, 401, .inl zf)), (u 6, .inl (g.2 0, 12, .inl zf))])) (va_A [(h0, .inr (2, [.null, .null, .null, .null, .null, .null, .null, .int 0, .int 0]))] sz)) 6 1231 (va_A [(h0, .inr (2, [.null, .null, .null, .null, .null, .null, .null, .int 0, .int 0]))] sz) := by
  refine cmet cX2_init "EbbWreck$Drift" (by decide) rfl rfl (Nat.le_of_ble_eq_true rfl) (fun p e s m below meth c E hr hlk hin hml hNW hsz hP hD ls hl => ?_)
  have hx := E.1
  have hb := E.2.1
  subst hsz
  generalize hAe : va_A [(h0, .inr (2, [.null, .null, .null, .null, .null, .null, .null, .int 0, .int 0]))] s.heap.size = A at hD ⊢
  have hA : ∀ q : Nat, s.heap.size ≤ q → A q := fun q h => by rw [← hAe]; exact Or.inr h
  have hS : va_S A s.heap s.heap [] := va_S.rf
  have hP : va_P g.1 vwCl [(h0, .inr (2, [.null, .null, .null, .null, .null, .null, .null, .int 0, .int 0]))] s.heap := hP
  have hl : lv_has ls 2 [(0, .ref h0), (1, .ref p1)] := hl
  refine lv_aload_n hx hb dX2_init_0 rfl (lv_at hl 0 rfl) ?_
  refine cinit E hml hl.1 q378 dX2_init_1 (Nat.le_of_ble_eq_true rfl) (Nat.le_of_ble_eq_true rfl) ?_
  refine lv_aload_n hx hb dX2_init_4 rfl (lv_at hl 0 rfl) ?_
  refine lv_bipush (v := 8) hx hb dX2_init_5 (by decide) ?_
  refine cnewa (a0 := (8, .inl zf)) E hP hD hS hA 0 q179 rfl rfl (fun _ h => h) (fun _ => rfl) (by decide) rfl (by decide) (Nat.le_of_ble_eq_true rfl) (Nat.le_of_ble_eq_true rfl) dX2_init_7 (fun q1 H hP hD hS => ?_)
  have hP : va_P g.1 vwCl [(h0, .inr (2, [.null, .null, .null, .null, .null, .null, .null, .int 0, .int 0])), (q1, .inl (g.2 0, 8, .inl zf))] H := hP
  have hD : va_D A [(h0, .inr (2, [.null, .null, .null, .null, .null, .null, .null, .int 0, .int 0])), (q1, .inl (g.2 0, 8, .inl zf))] := hD
  refine cputF (ty := .array .int) (v := .ref q1) E hin hP hD hS 0 rfl rfl 1 (by decide) q380 rfl rfl (by decide +kernel) rfl rfl (Nat.le_of_ble_eq_true rfl) dX2_init_9 (fun H locs hP hD hS => ?_)
  have hP : va_P g.1 vwCl [(h0, .inr (2, [.null, .ref q1, .null, .null, .null, .null, .null, .int 0, .int 0])), (q1, .inl (g.2 0, 8, .inl zf))] H := hP
  have hD : va_D A [(h0, .inr (2, [.null, .ref q1, .null, .null, .null, .null, .null, .int 0, .int 0])), (q1, .inl (g.2 0, 8, .inl zf))] := hD
  refine lv_aload_n hx hb dX2_init_12 rfl (lv_at hl 0 rfl) ?_
  refine lv_bipush (v := 8) hx hb dX2_init_13 (by decide) ?_
  refine cnewa (a0 := (8, .inl zf)) E hP hD hS hA 0 q179 rfl rfl (fun _ h => h) (fun _ => rfl) (by decide) rfl (by decide) (Nat.le_of_ble_eq_true rfl) (Nat.le_of_ble_eq_true rfl) dX2_init_15 (fun q2 H hP hD hS => ?_)
  have hP : va_P g.1 vwCl [(h0, .inr (2, [.null, .ref q1, .null, .null, .null, .null, .null, .int 0, .int 0])), (q1, .inl (g.2 0, 8, .inl zf)), (q2, .inl (g.2 0, 8, .inl zf))] H := hP
  have hD : va_D A [(h0, .inr (2, [.null, .ref q1, .null, .null, .null, .null, .null, .int 0, .int 0])), (q1, .inl (g.2 0, 8, .inl zf)), (q2, .inl (g.2 0, 8, .inl zf))] := hD
  refine cputF (ty := .array .int) (v := .ref q2) E hin hP hD hS 0 rfl rfl 2 (by decide) q382 rfl rfl (by decide +kernel) rfl rfl (Nat.le_of_ble_eq_true rfl) dX2_init_17 (fun H locs hP hD hS => ?_)
  have hP : va_P g.1 vwCl [(h0, .inr (2, [.null, .ref q1, .ref q2, .null, .null, .null, .null, .int 0, .int 0])), (q1, .inl (g.2 0, 8, .inl zf)), (q2, .inl (g.2 0, 8, .inl zf))] H := hP
  have hD : va_D A [(h0, .inr (2, [.null, .ref q1, .ref q2, .null, .null, .null, .null, .int 0, .int 0])), (q1, .inl (g.2 0, 8, .inl zf)), (q2, .inl (g.2 0, 8, .inl zf))] := hD
  refine lv_aload_n hx hb dX2_init_20 rfl (lv_at hl 0 rfl) ?_
  refine lv_sipush (v := 401) hx hb dX2_init_21 (by decide) ?_
  refine cnewa (a0 := (401, .inl zf)) E hP hD hS hA 1 q178 rfl rfl (fun _ h => h) (fun _ => rfl) (by decide) rfl (by decide) (Nat.le_of_ble_eq_true rfl) (Nat.le_of_ble_eq_true rfl) dX2_init_24 (fun q3 H hP hD hS => ?_)
  have hP : va_P g.1 vwCl [(h0, .inr (2, [.null, .ref q1, .ref q2, .null, .null, .null, .null, .int 0, .int 0])), (q1, .inl (g.2 0, 8, .inl zf)), (q2, .inl (g.2 0, 8, .inl zf)), (q3, .inl (g.2 1, 401, .inl zf))] H := hP
  have hD : va_D A [(h0, .inr (2, [.null, .ref q1, .ref q2, .null, .null, .null, .null, .int 0, .int 0])), (q1, .inl (g.2 0, 8, .inl zf)), (q2, .inl (g.2 0, 8, .inl zf)), (q3, .inl (g.2 1, 401, .inl zf))] := hD
  refine cputF (ty := .array .byte) (v := .ref q3) E hin hP hD hS 0 rfl rfl 3 (by decide) q384 rfl rfl (by decide +kernel) rfl rfl (Nat.le_of_ble_eq_true rfl) dX2_init_26 (fun H locs hP hD hS => ?_)
  have hP : va_P g.1 vwCl [(h0, .inr (2, [.null, .ref q1, .ref q2, .ref q3, .null, .null, .null, .int 0, .int 0])), (q1, .inl (g.2 0, 8, .inl zf)), (q2, .inl (g.2 0, 8, .inl zf)), (q3, .inl (g.2 1, 401, .inl zf))] H := hP
  have hD : va_D A [(h0, .inr (2, [.null, .ref q1, .ref q2, .ref q3, .null, .null, .null, .int 0, .int 0])), (q1, .inl (g.2 0, 8, .inl zf)), (q2, .inl (g.2 0, 8, .inl zf)), (q3, .inl (g.2 1, 401, .inl zf))] := hD
  refine lv_aload_n hx hb dX2_init_29 rfl (lv_at hl 0 rfl) ?_
  refine lv_sipush (v := 401) hx hb dX2_init_30 (by decide) ?_
  refine cnewa (a0 := (401, .inl zf)) E hP hD hS hA 0 q179 rfl rfl (fun _ h => h) (fun _ => rfl) (by decide) rfl (by decide) (Nat.le_of_ble_eq_true rfl) (Nat.le_of_ble_eq_true rfl) dX2_init_33 (fun q4 H hP hD hS => ?_)
  have hP : va_P g.1 vwCl [(h0, .inr (2, [.null, .ref q1, .ref q2, .ref q3, .null, .null, .null, .int 0, .int 0])), (q1, .inl (g.2 0, 8, .inl zf)), (q2, .inl (g.2 0, 8, .inl zf)), (q3, .inl (g.2 1, 401, .inl zf)), (q4, .inl (g.2 0, 401, .inl zf))] H := hP
  have hD : va_D A [(h0, .inr (2, [.null, .ref q1, .ref q2, .ref q3, .null, .null, .null, .int 0, .int 0])), (q1, .inl (g.2 0, 8, .inl zf)), (q2, .inl (g.2 0, 8, .inl zf)), (q3, .inl (g.2 1, 401, .inl zf)), (q4, .inl (g.2 0, 401, .inl zf))] := hD
  refine cputF (ty := .array .int) (v := .ref q4) E hin hP hD hS 0 rfl rfl 4 (by decide) q385 rfl rfl (by decide +kernel) rfl rfl (Nat.le_of_ble_eq_true rfl) dX2_init_35 (fun H locs hP hD hS => ?_)
  have hP : va_P g.1 vwCl [(h0, .inr (2, [.null, .ref q1, .ref q2, .ref q3, .ref q4, .null, .null, .int 0, .int 0])), (q1, .inl (g.2 0, 8, .inl zf)), (q2, .inl (g.2 0, 8, .inl zf)), (q3, .inl (g.2 1, 401, .inl zf)), (q4, .inl (g.2 0, 401, .inl zf))] H := hP
  have hD : va_D A [(h0, .inr (2, [.null, .ref q1, .ref q2, .ref q3, .ref q4, .null, .null, .int 0, .int 0])), (q1, .inl (g.2 0, 8, .inl zf)), (q2, .inl (g.2 0, 8, .inl zf)), (q3, .inl (g.2 1, 401, .inl zf)), (q4, .inl (g.2 0, 401, .inl zf))] := hD
  refine lv_aload_n hx hb dX2_init_38 rfl (lv_at hl 0 rfl) ?_
  refine lv_sipush (v := 401) hx hb dX2_init_39 (by decide) ?_
  refine cnewa (a0 := (401, .inl zf)) E hP hD hS hA 0 q179 rfl rfl (fun _ h => h) (fun _ => rfl) (by decide) rfl (by decide) (Nat.le_of_ble_eq_true rfl) (Nat.le_of_ble_eq_true rfl) dX2_init_42 (fun q5 H hP hD hS => ?_)
  have hP : va_P g.1 vwCl [(h0, .inr (2, [.null, .ref q1, .ref q2, .ref q3, .ref q4, .null, .null, .int 0, .int 0])), (q1, .inl (g.2 0, 8, .inl zf)), (q2, .inl (g.2 0, 8, .inl zf)), (q3, .inl (g.2 1, 401, .inl zf)), (q4, .inl (g.2 0, 401, .inl zf)), (q5, .inl (g.2 0, 401, .inl zf))] H := hP
  have hD : va_D A [(h0, .inr (2, [.null, .ref q1, .ref q2, .ref q3, .ref q4, .null, .null, .int 0, .int 0])), (q1, .inl (g.2 0, 8, .inl zf)), (q2, .inl (g.2 0, 8, .inl zf)), (q3, .inl (g.2 1, 401, .inl zf)), (q4, .inl (g.2 0, 401, .inl zf)), (q5, .inl (g.2 0, 401, .inl zf))] := hD
  refine cputF (ty := .array .int) (v := .ref q5) E hin hP hD hS 0 rfl rfl 5 (by decide) q386 rfl rfl (by decide +kernel) rfl rfl (Nat.le_of_ble_eq_true rfl) dX2_init_44 (fun H locs hP hD hS => ?_)
  have hP : va_P g.1 vwCl [(h0, .inr (2, [.null, .ref q1, .ref q2, .ref q3, .ref q4, .ref q5, .null, .int 0, .int 0])), (q1, .inl (g.2 0, 8, .inl zf)), (q2, .inl (g.2 0, 8, .inl zf)), (q3, .inl (g.2 1, 401, .inl zf)), (q4, .inl (g.2 0, 401, .inl zf)), (q5, .inl (g.2 0, 401, .inl zf))] H := hP
  have hD : va_D A [(h0, .inr (2, [.null, .ref q1, .ref q2, .ref q3, .ref q4, .ref q5, .null, .int 0, .int 0])), (q1, .inl (g.2 0, 8, .inl zf)), (q2, .inl (g.2 0, 8, .inl zf)), (q3, .inl (g.2 1, 401, .inl zf)), (q4, .inl (g.2 0, 401, .inl zf)), (q5, .inl (g.2 0, 401, .inl zf))] := hD
  refine lv_aload_n hx hb dX2_init_47 rfl (lv_at hl 0 rfl) ?_
  refine lv_bipush (v := 12) hx hb dX2_init_48 (by decide) ?_
  refine cnewa (a0 := (12, .inl zf)) E hP hD hS hA 0 q179 rfl rfl (fun _ h => h) (fun _ => rfl) (by decide) rfl (by decide) (Nat.le_of_ble_eq_true rfl) (Nat.le_of_ble_eq_true rfl) dX2_init_50 (fun q6 H hP hD hS => ?_)
  have hP : va_P g.1 vwCl [(h0, .inr (2, [.null, .ref q1, .ref q2, .ref q3, .ref q4, .ref q5, .null, .int 0, .int 0])), (q1, .inl (g.2 0, 8, .inl zf)), (q2, .inl (g.2 0, 8, .inl zf)), (q3, .inl (g.2 1, 401, .inl zf)), (q4, .inl (g.2 0, 401, .inl zf)), (q5, .inl (g.2 0, 401, .inl zf)), (q6, .inl (g.2 0, 12, .inl zf))] H := hP
  have hD : va_D A [(h0, .inr (2, [.null, .ref q1, .ref q2, .ref q3, .ref q4, .ref q5, .null, .int 0, .int 0])), (q1, .inl (g.2 0, 8, .inl zf)), (q2, .inl (g.2 0, 8, .inl zf)), (q3, .inl (g.2 1, 401, .inl zf)), (q4, .inl (g.2 0, 401, .inl zf)), (q5, .inl (g.2 0, 401, .inl zf)), (q6, .inl (g.2 0, 12, .inl zf))] := hD
  refine cputF (ty := .array .int) (v := .ref q6) E hin hP hD hS 0 rfl rfl 6 (by decide) q387 rfl rfl (by decide +kernel) rfl rfl (Nat.le_of_ble_eq_true rfl) dX2_init_52 (fun H locs hP hD hS => ?_)
  have hP : va_P g.1 vwCl [(h0, .inr (2, [.null, .ref q1, .ref q2, .ref q3, .ref q4, .ref q5, .ref q6, .int 0, .int 0])), (q1, .inl (g.2 0, 8, .inl zf)), (q2, .inl (g.2 0, 8, .inl zf)), (q3, .inl (g.2 1, 401, .inl zf)), (q4, .inl (g.2 0, 401, .inl zf)), (q5, .inl (g.2 0, 401, .inl zf)), (q6, .inl (g.2 0, 12, .inl zf))] H := hP
  have hD : va_D A [(h0, .inr (2, [.null, .ref q1, .ref q2, .ref q3, .ref q4, .ref q5, .ref q6, .int 0, .int 0])), (q1, .inl (g.2 0, 8, .inl zf)), (q2, .inl (g.2 0, 8, .inl zf)), (q3, .inl (g.2 1, 401, .inl zf)), (q4, .inl (g.2 0, 401, .inl zf)), (q5, .inl (g.2 0, 401, .inl zf)), (q6, .inl (g.2 0, 12, .inl zf))] := hD
  refine lv_aload_n hx hb dX2_init_55 rfl (lv_at hl 0 rfl) ?_
  refine lv_aload_n hx hb dX2_init_56 rfl (lv_at hl 1 rfl) ?_
  refine cputF (ty := .object "EbbWreck$Coast") (v := .ref p1) E hin hP hD hS 0 rfl rfl 0 (by decide) q379 rfl rfl (by decide +kernel) rfl rfl (Nat.le_of_ble_eq_true rfl) dX2_init_57 (fun H locs hP hD hS => ?_)
  have hP : va_P g.1 vwCl [(h0, .inr (2, [.ref p1, .ref q1, .ref q2, .ref q3, .ref q4, .ref q5, .ref q6, .int 0, .int 0])), (q1, .inl (g.2 0, 8, .inl zf)), (q2, .inl (g.2 0, 8, .inl zf)), (q3, .inl (g.2 1, 401, .inl zf)), (q4, .inl (g.2 0, 401, .inl zf)), (q5, .inl (g.2 0, 401, .inl zf)), (q6, .inl (g.2 0, 12, .inl zf))] H := hP
  have hD : va_D A [(h0, .inr (2, [.ref p1, .ref q1, .ref q2, .ref q3, .ref q4, .ref q5, .ref q6, .int 0, .int 0])), (q1, .inl (g.2 0, 8, .inl zf)), (q2, .inl (g.2 0, 8, .inl zf)), (q3, .inl (g.2 1, 401, .inl zf)), (q4, .inl (g.2 0, 401, .inl zf)), (q5, .inl (g.2 0, 401, .inl zf)), (q6, .inl (g.2 0, 12, .inl zf))] := hD
  refine W.widen (k := 6) (n := 1231) (Nat.le_of_ble_eq_true rfl) (Nat.le_of_ble_eq_true rfl) ?_
  exact W.vret hx hb hr (fun t ht hW => ⟨⟨adL [h0, q1, q2, q3, q4, q5, q6], rfl, trivial, by rw [ht]; exact hP, hD⟩, hS.F ht⟩) hS.2.2 dX2_init_60 hlk
set_option maxHeartbeats 8000000 in
set_option maxRecDepth 100000 in
theorem kPushing (l : Launch) (g : GG) (sz : Nat) (h0 : Nat) (p1 : Nat) : Met l yX4_init (wG (.code yX4_init cX4_init 2 none)) (RmC 1 1 1212) (CPre g sz [(h0, .inr (4, [.null, .null, .int 0, .int 0]))] [.ref h0, .ref p1]) (va_Qv (fun _ : Nat → Nat => True) (fun u t => va_P g.1 vwCl ([(h0, .inr (4, [.ref p1, .ref (u 1), .int 0, .int 0])), (u 1, .inl (g.2 0, 1212, .inl zf))]) t.heap ∧ va_D (va_A [(h0, .inr (4, [.null, .null, .int 0, .int 0]))] sz) ([(h0, .inr (4, [.ref p1, .ref (u 1), .int 0, .int 0])), (u 1, .inl (g.2 0, 1212, .inl zf))])) (va_A [(h0, .inr (4, [.null, .null, .int 0, .int 0]))] sz)) 1 1212 (va_A [(h0, .inr (4, [.null, .null, .int 0, .int 0]))] sz) := by
  refine cmet cX4_init "EbbWreck$Pushing" (by decide) rfl rfl (Nat.le_of_ble_eq_true rfl) (fun p e s m below meth c E hr hlk hin hml hNW hsz hP hD ls hl => ?_)
  have hx := E.1
  have hb := E.2.1
  subst hsz
  generalize hAe : va_A [(h0, .inr (4, [.null, .null, .int 0, .int 0]))] s.heap.size = A at hD ⊢
  have hA : ∀ q : Nat, s.heap.size ≤ q → A q := fun q h => by rw [← hAe]; exact Or.inr h
  have hS : va_S A s.heap s.heap [] := va_S.rf
  have hP : va_P g.1 vwCl [(h0, .inr (4, [.null, .null, .int 0, .int 0]))] s.heap := hP
  have hl : lv_has ls 2 [(0, .ref h0), (1, .ref p1)] := hl
  refine lv_aload_n hx hb dX4_init_0 rfl (lv_at hl 0 rfl) ?_
  refine cinit E hml hl.1 q415 dX4_init_1 (Nat.le_of_ble_eq_true rfl) (Nat.le_of_ble_eq_true rfl) ?_
  refine lv_aload_n hx hb dX4_init_4 rfl (lv_at hl 0 rfl) ?_
  refine lv_sipush (v := 1212) hx hb dX4_init_5 (by decide) ?_
  refine cnewa (a0 := (1212, .inl zf)) E hP hD hS hA 0 q179 rfl rfl (fun _ h => h) (fun _ => rfl) (by decide) rfl (by decide) (Nat.le_of_ble_eq_true rfl) (Nat.le_of_ble_eq_true rfl) dX4_init_8 (fun q1 H hP hD hS => ?_)
  have hP : va_P g.1 vwCl [(h0, .inr (4, [.null, .null, .int 0, .int 0])), (q1, .inl (g.2 0, 1212, .inl zf))] H := hP
  have hD : va_D A [(h0, .inr (4, [.null, .null, .int 0, .int 0])), (q1, .inl (g.2 0, 1212, .inl zf))] := hD
  refine cputF (ty := .array .int) (v := .ref q1) E hin hP hD hS 0 rfl rfl 1 (by decide) q417 rfl rfl (by decide +kernel) rfl rfl (Nat.le_of_ble_eq_true rfl) dX4_init_10 (fun H locs hP hD hS => ?_)
  have hP : va_P g.1 vwCl [(h0, .inr (4, [.null, .ref q1, .int 0, .int 0])), (q1, .inl (g.2 0, 1212, .inl zf))] H := hP
  have hD : va_D A [(h0, .inr (4, [.null, .ref q1, .int 0, .int 0])), (q1, .inl (g.2 0, 1212, .inl zf))] := hD
  refine lv_aload_n hx hb dX4_init_13 rfl (lv_at hl 0 rfl) ?_
  refine lv_aload_n hx hb dX4_init_14 rfl (lv_at hl 1 rfl) ?_
  refine cputF (ty := .object "EbbWreck$Coast") (v := .ref p1) E hin hP hD hS 0 rfl rfl 0 (by decide) q416 rfl rfl (by decide +kernel) rfl rfl (Nat.le_of_ble_eq_true rfl) dX4_init_15 (fun H locs hP hD hS => ?_)
  have hP : va_P g.1 vwCl [(h0, .inr (4, [.ref p1, .ref q1, .int 0, .int 0])), (q1, .inl (g.2 0, 1212, .inl zf))] H := hP
  have hD : va_D A [(h0, .inr (4, [.ref p1, .ref q1, .int 0, .int 0])), (q1, .inl (g.2 0, 1212, .inl zf))] := hD
  refine W.widen (k := 1) (n := 1212) (Nat.le_of_ble_eq_true rfl) (Nat.le_of_ble_eq_true rfl) ?_
  exact W.vret hx hb hr (fun t ht hW => ⟨⟨adL [h0, q1], rfl, trivial, by rw [ht]; exact hP, hD⟩, hS.F ht⟩) hS.2.2 dX4_init_18 hlk
set_option maxHeartbeats 8000000 in
set_option maxRecDepth 100000 in
theorem kThrowing (l : Launch) (g : GG) (sz : Nat) (h0 : Nat) (p1 : Nat) : Met l yX9_init (wG (.code yX9_init cX9_init 2 none)) (RmC 1 2 24) (CPre g sz [(h0, .inr (9, [.null, .null, .null]))] [.ref h0, .ref p1]) (va_Qv (fun _ : Nat → Nat => True) (fun u t => va_P g.1 vwCl ([(h0, .inr (9, [.ref p1, .ref (u 1), .ref (u 2)])), (u 1, .inl (g.2 0, 12, .inl zf)), (u 2, .inl (g.2 0, 12, .inl zf))]) t.heap ∧ va_D (va_A [(h0, .inr (9, [.null, .null, .null]))] sz) ([(h0, .inr (9, [.ref p1, .ref (u 1), .ref (u 2)])), (u 1, .inl (g.2 0, 12, .inl zf)), (u 2, .inl (g.2 0, 12, .inl zf))])) (va_A [(h0, .inr (9, [.null, .null, .null]))] sz)) 2 24 (va_A [(h0, .inr (9, [.null, .null, .null]))] sz) := by
  refine cmet cX9_init "EbbWreck$Throwing" (by decide) rfl rfl (Nat.le_of_ble_eq_true rfl) (fun p e s m below meth c E hr hlk hin hml hNW hsz hP hD ls hl => ?_)
  have hx := E.1
  have hb := E.2.1
  subst hsz
  generalize hAe : va_A [(h0, .inr (9, [.null, .null, .null]))] s.heap.size = A at hD ⊢
  have hA : ∀ q : Nat, s.heap.size ≤ q → A q := fun q h => by rw [← hAe]; exact Or.inr h
  have hS : va_S A s.heap s.heap [] := va_S.rf
  have hP : va_P g.1 vwCl [(h0, .inr (9, [.null, .null, .null]))] s.heap := hP
  have hl : lv_has ls 2 [(0, .ref h0), (1, .ref p1)] := hl
  refine lv_aload_n hx hb dX9_init_0 rfl (lv_at hl 0 rfl) ?_
  refine cinit E hml hl.1 q434 dX9_init_1 (Nat.le_of_ble_eq_true rfl) (Nat.le_of_ble_eq_true rfl) ?_
  refine lv_aload_n hx hb dX9_init_4 rfl (lv_at hl 0 rfl) ?_
  refine lv_bipush (v := 12) hx hb dX9_init_5 (by decide) ?_
  refine cnewa (a0 := (12, .inl zf)) E hP hD hS hA 0 q179 rfl rfl (fun _ h => h) (fun _ => rfl) (by decide) rfl (by decide) (Nat.le_of_ble_eq_true rfl) (Nat.le_of_ble_eq_true rfl) dX9_init_7 (fun q1 H hP hD hS => ?_)
  have hP : va_P g.1 vwCl [(h0, .inr (9, [.null, .null, .null])), (q1, .inl (g.2 0, 12, .inl zf))] H := hP
  have hD : va_D A [(h0, .inr (9, [.null, .null, .null])), (q1, .inl (g.2 0, 12, .inl zf))] := hD
  refine cputF (ty := .array .int) (v := .ref q1) E hin hP hD hS 0 rfl rfl 1 (by decide) q436 rfl rfl (by decide +kernel) rfl rfl (Nat.le_of_ble_eq_true rfl) dX9_init_9 (fun H locs hP hD hS => ?_)
  have hP : va_P g.1 vwCl [(h0, .inr (9, [.null, .ref q1, .null])), (q1, .inl (g.2 0, 12, .inl zf))] H := hP
  have hD : va_D A [(h0, .inr (9, [.null, .ref q1, .null])), (q1, .inl (g.2 0, 12, .inl zf))] := hD
  refine lv_aload_n hx hb dX9_init_12 rfl (lv_at hl 0 rfl) ?_
  refine lv_bipush (v := 12) hx hb dX9_init_13 (by decide) ?_
  refine cnewa (a0 := (12, .inl zf)) E hP hD hS hA 0 q179 rfl rfl (fun _ h => h) (fun _ => rfl) (by decide) rfl (by decide) (Nat.le_of_ble_eq_true rfl) (Nat.le_of_ble_eq_true rfl) dX9_init_15 (fun q2 H hP hD hS => ?_)
  have hP : va_P g.1 vwCl [(h0, .inr (9, [.null, .ref q1, .null])), (q1, .inl (g.2 0, 12, .inl zf)), (q2, .inl (g.2 0, 12, .inl zf))] H := hP
  have hD : va_D A [(h0, .inr (9, [.null, .ref q1, .null])), (q1, .inl (g.2 0, 12, .inl zf)), (q2, .inl (g.2 0, 12, .inl zf))] := hD
  refine cputF (ty := .array .int) (v := .ref q2) E hin hP hD hS 0 rfl rfl 2 (by decide) q437 rfl rfl (by decide +kernel) rfl rfl (Nat.le_of_ble_eq_true rfl) dX9_init_17 (fun H locs hP hD hS => ?_)
  have hP : va_P g.1 vwCl [(h0, .inr (9, [.null, .ref q1, .ref q2])), (q1, .inl (g.2 0, 12, .inl zf)), (q2, .inl (g.2 0, 12, .inl zf))] H := hP
  have hD : va_D A [(h0, .inr (9, [.null, .ref q1, .ref q2])), (q1, .inl (g.2 0, 12, .inl zf)), (q2, .inl (g.2 0, 12, .inl zf))] := hD
  refine lv_aload_n hx hb dX9_init_20 rfl (lv_at hl 0 rfl) ?_
  refine lv_aload_n hx hb dX9_init_21 rfl (lv_at hl 1 rfl) ?_
  refine cputF (ty := .object "EbbWreck$Coast") (v := .ref p1) E hin hP hD hS 0 rfl rfl 0 (by decide) q435 rfl rfl (by decide +kernel) rfl rfl (Nat.le_of_ble_eq_true rfl) dX9_init_22 (fun H locs hP hD hS => ?_)
  have hP : va_P g.1 vwCl [(h0, .inr (9, [.ref p1, .ref q1, .ref q2])), (q1, .inl (g.2 0, 12, .inl zf)), (q2, .inl (g.2 0, 12, .inl zf))] H := hP
  have hD : va_D A [(h0, .inr (9, [.ref p1, .ref q1, .ref q2])), (q1, .inl (g.2 0, 12, .inl zf)), (q2, .inl (g.2 0, 12, .inl zf))] := hD
  refine W.widen (k := 2) (n := 24) (Nat.le_of_ble_eq_true rfl) (Nat.le_of_ble_eq_true rfl) ?_
  exact W.vret hx hb hr (fun t ht hW => ⟨⟨adL [h0, q1, q2], rfl, trivial, by rw [ht]; exact hP, hD⟩, hS.F ht⟩) hS.2.2 dX9_init_25 hlk
set_option maxHeartbeats 8000000 in
set_option maxRecDepth 100000 in
theorem kSeating (l : Launch) (g : GG) (sz : Nat) (h0 : Nat) (p1 : Nat) (p2 : Nat) : Met l yX7_init (wG (.code yX7_init cX7_init 3 none)) (RmC 1 3 63) (CPre g sz [(h0, .inr (7, [.null, .null, .null, .null, .null]))] [.ref h0, .ref p1, .ref p2]) (va_Qv (fun _ : Nat → Nat => True) (fun u t => va_P g.1 vwCl ([(h0, .inr (7, [.ref p1, .ref p2, .ref (u 1), .ref (u 2), .ref (u 3)])), (u 1, .inl (g.2 0, 48, .inl zf)), (u 2, .inl (g.2 0, 12, .inl zf)), (u 3, .inl (g.2 0, 3, .inl zf))]) t.heap ∧ va_D (va_A [(h0, .inr (7, [.null, .null, .null, .null, .null]))] sz) ([(h0, .inr (7, [.ref p1, .ref p2, .ref (u 1), .ref (u 2), .ref (u 3)])), (u 1, .inl (g.2 0, 48, .inl zf)), (u 2, .inl (g.2 0, 12, .inl zf)), (u 3, .inl (g.2 0, 3, .inl zf))])) (va_A [(h0, .inr (7, [.null, .null, .null, .null, .null]))] sz)) 3 63 (va_A [(h0, .inr (7, [.null, .null, .null, .null, .null]))] sz) := by
  refine cmet cX7_init "EbbWreck$Seating" (by decide) rfl rfl (Nat.le_of_ble_eq_true rfl) (fun p e s m below meth c E hr hlk hin hml hNW hsz hP hD ls hl => ?_)
  have hx := E.1
  have hb := E.2.1
  subst hsz
  generalize hAe : va_A [(h0, .inr (7, [.null, .null, .null, .null, .null]))] s.heap.size = A at hD ⊢
  have hA : ∀ q : Nat, s.heap.size ≤ q → A q := fun q h => by rw [← hAe]; exact Or.inr h
  have hS : va_S A s.heap s.heap [] := va_S.rf
  have hP : va_P g.1 vwCl [(h0, .inr (7, [.null, .null, .null, .null, .null]))] s.heap := hP
  have hl : lv_has ls 3 [(0, .ref h0), (1, .ref p1), (2, .ref p2)] := hl
  refine lv_aload_n hx hb dX7_init_0 rfl (lv_at hl 0 rfl) ?_
  refine cinit E hml hl.1 q450 dX7_init_1 (Nat.le_of_ble_eq_true rfl) (Nat.le_of_ble_eq_true rfl) ?_
  refine lv_aload_n hx hb dX7_init_4 rfl (lv_at hl 0 rfl) ?_
  refine lv_bipush (v := 48) hx hb dX7_init_5 (by decide) ?_
  refine cnewa (a0 := (48, .inl zf)) E hP hD hS hA 0 q179 rfl rfl (fun _ h => h) (fun _ => rfl) (by decide) rfl (by decide) (Nat.le_of_ble_eq_true rfl) (Nat.le_of_ble_eq_true rfl) dX7_init_7 (fun q1 H hP hD hS => ?_)
  have hP : va_P g.1 vwCl [(h0, .inr (7, [.null, .null, .null, .null, .null])), (q1, .inl (g.2 0, 48, .inl zf))] H := hP
  have hD : va_D A [(h0, .inr (7, [.null, .null, .null, .null, .null])), (q1, .inl (g.2 0, 48, .inl zf))] := hD
  refine cputF (ty := .array .int) (v := .ref q1) E hin hP hD hS 0 rfl rfl 2 (by decide) q453 rfl rfl (by decide +kernel) rfl rfl (Nat.le_of_ble_eq_true rfl) dX7_init_9 (fun H locs hP hD hS => ?_)
  have hP : va_P g.1 vwCl [(h0, .inr (7, [.null, .null, .ref q1, .null, .null])), (q1, .inl (g.2 0, 48, .inl zf))] H := hP
  have hD : va_D A [(h0, .inr (7, [.null, .null, .ref q1, .null, .null])), (q1, .inl (g.2 0, 48, .inl zf))] := hD
  refine lv_aload_n hx hb dX7_init_12 rfl (lv_at hl 0 rfl) ?_
  refine lv_bipush (v := 12) hx hb dX7_init_13 (by decide) ?_
  refine cnewa (a0 := (12, .inl zf)) E hP hD hS hA 0 q179 rfl rfl (fun _ h => h) (fun _ => rfl) (by decide) rfl (by decide) (Nat.le_of_ble_eq_true rfl) (Nat.le_of_ble_eq_true rfl) dX7_init_15 (fun q2 H hP hD hS => ?_)
  have hP : va_P g.1 vwCl [(h0, .inr (7, [.null, .null, .ref q1, .null, .null])), (q1, .inl (g.2 0, 48, .inl zf)), (q2, .inl (g.2 0, 12, .inl zf))] H := hP
  have hD : va_D A [(h0, .inr (7, [.null, .null, .ref q1, .null, .null])), (q1, .inl (g.2 0, 48, .inl zf)), (q2, .inl (g.2 0, 12, .inl zf))] := hD
  refine cputF (ty := .array .int) (v := .ref q2) E hin hP hD hS 0 rfl rfl 3 (by decide) q454 rfl rfl (by decide +kernel) rfl rfl (Nat.le_of_ble_eq_true rfl) dX7_init_17 (fun H locs hP hD hS => ?_)
  have hP : va_P g.1 vwCl [(h0, .inr (7, [.null, .null, .ref q1, .ref q2, .null])), (q1, .inl (g.2 0, 48, .inl zf)), (q2, .inl (g.2 0, 12, .inl zf))] H := hP
  have hD : va_D A [(h0, .inr (7, [.null, .null, .ref q1, .ref q2, .null])), (q1, .inl (g.2 0, 48, .inl zf)), (q2, .inl (g.2 0, 12, .inl zf))] := hD
  refine lv_aload_n hx hb dX7_init_20 rfl (lv_at hl 0 rfl) ?_
  refine lv_iconst (v := 3) hx hb dX7_init_21 (by decide) ?_
  refine cnewa (a0 := (3, .inl zf)) E hP hD hS hA 0 q179 rfl rfl (fun _ h => h) (fun _ => rfl) (by decide) rfl (by decide) (Nat.le_of_ble_eq_true rfl) (Nat.le_of_ble_eq_true rfl) dX7_init_22 (fun q3 H hP hD hS => ?_)
  have hP : va_P g.1 vwCl [(h0, .inr (7, [.null, .null, .ref q1, .ref q2, .null])), (q1, .inl (g.2 0, 48, .inl zf)), (q2, .inl (g.2 0, 12, .inl zf)), (q3, .inl (g.2 0, 3, .inl zf))] H := hP
  have hD : va_D A [(h0, .inr (7, [.null, .null, .ref q1, .ref q2, .null])), (q1, .inl (g.2 0, 48, .inl zf)), (q2, .inl (g.2 0, 12, .inl zf)), (q3, .inl (g.2 0, 3, .inl zf))] := hD
  refine cputF (ty := .array .int) (v := .ref q3) E hin hP hD hS 0 rfl rfl 4 (by decide) q455 rfl rfl (by decide +kernel) rfl rfl (Nat.le_of_ble_eq_true rfl) dX7_init_24 (fun H locs hP hD hS => ?_)
  have hP : va_P g.1 vwCl [(h0, .inr (7, [.null, .null, .ref q1, .ref q2, .ref q3])), (q1, .inl (g.2 0, 48, .inl zf)), (q2, .inl (g.2 0, 12, .inl zf)), (q3, .inl (g.2 0, 3, .inl zf))] H := hP
  have hD : va_D A [(h0, .inr (7, [.null, .null, .ref q1, .ref q2, .ref q3])), (q1, .inl (g.2 0, 48, .inl zf)), (q2, .inl (g.2 0, 12, .inl zf)), (q3, .inl (g.2 0, 3, .inl zf))] := hD
  refine lv_aload_n hx hb dX7_init_27 rfl (lv_at hl 0 rfl) ?_
  refine lv_aload_n hx hb dX7_init_28 rfl (lv_at hl 1 rfl) ?_
  refine cputF (ty := .object "EbbWreck$Coast") (v := .ref p1) E hin hP hD hS 0 rfl rfl 0 (by decide) q451 rfl rfl (by decide +kernel) rfl rfl (Nat.le_of_ble_eq_true rfl) dX7_init_29 (fun H locs hP hD hS => ?_)
  have hP : va_P g.1 vwCl [(h0, .inr (7, [.ref p1, .null, .ref q1, .ref q2, .ref q3])), (q1, .inl (g.2 0, 48, .inl zf)), (q2, .inl (g.2 0, 12, .inl zf)), (q3, .inl (g.2 0, 3, .inl zf))] H := hP
  have hD : va_D A [(h0, .inr (7, [.ref p1, .null, .ref q1, .ref q2, .ref q3])), (q1, .inl (g.2 0, 48, .inl zf)), (q2, .inl (g.2 0, 12, .inl zf)), (q3, .inl (g.2 0, 3, .inl zf))] := hD
  refine lv_aload_n hx hb dX7_init_32 rfl (lv_at hl 0 rfl) ?_
  refine lv_aload_n hx hb dX7_init_33 rfl (lv_at hl 2 rfl) ?_
  refine cputF (ty := .object "EbbWreck$Drift") (v := .ref p2) E hin hP hD hS 0 rfl rfl 1 (by decide) q452 rfl rfl (by decide +kernel) rfl rfl (Nat.le_of_ble_eq_true rfl) dX7_init_34 (fun H locs hP hD hS => ?_)
  have hP : va_P g.1 vwCl [(h0, .inr (7, [.ref p1, .ref p2, .ref q1, .ref q2, .ref q3])), (q1, .inl (g.2 0, 48, .inl zf)), (q2, .inl (g.2 0, 12, .inl zf)), (q3, .inl (g.2 0, 3, .inl zf))] H := hP
  have hD : va_D A [(h0, .inr (7, [.ref p1, .ref p2, .ref q1, .ref q2, .ref q3])), (q1, .inl (g.2 0, 48, .inl zf)), (q2, .inl (g.2 0, 12, .inl zf)), (q3, .inl (g.2 0, 3, .inl zf))] := hD
  refine W.widen (k := 3) (n := 63) (Nat.le_of_ble_eq_true rfl) (Nat.le_of_ble_eq_true rfl) ?_
  exact W.vret hx hb hr (fun t ht hW => ⟨⟨adL [h0, q1, q2, q3], rfl, trivial, by rw [ht]; exact hP, hD⟩, hS.F ht⟩) hS.2.2 dX7_init_37 hlk
set_option maxHeartbeats 8000000 in
set_option maxRecDepth 100000 in
theorem kSlots (l : Launch) (g : GG) (sz : Nat) (h0 : Nat) : Met l yX8_init (wG (.code yX8_init cX8_init 1 none)) (RmC 2 7 252) (CPre g sz [(h0, .inr (8, [.null, .null, .null]))] [.ref h0]) (va_Qv (fun _ : Nat → Nat => True) (fun u t => va_P g.1 vwCl ([(h0, .inr (8, [.ref (u 1), .ref (u 6), .ref (u 7)])), (u 1, .inl (g.2 5, 4, .inr (.inr (.inr (.inr (nuG (u 2) (u 3) (u 4) (u 5))))))), (u 2, .inl (g.2 2, 60, .inr (.inl zfL))), (u 3, .inl (g.2 2, 60, .inr (.inl zfL))), (u 4, .inl (g.2 2, 60, .inr (.inl zfL))), (u 5, .inl (g.2 2, 60, .inr (.inl zfL))), (u 6, .inl (g.2 0, 4, .inl zf)), (u 7, .inl (g.2 0, 4, .inl (fillF (-1) 4 zf)))]) t.heap ∧ va_D (va_A [(h0, .inr (8, [.null, .null, .null]))] sz) ([(h0, .inr (8, [.ref (u 1), .ref (u 6), .ref (u 7)])), (u 1, .inl (g.2 5, 4, .inr (.inr (.inr (.inr (nuG (u 2) (u 3) (u 4) (u 5))))))), (u 2, .inl (g.2 2, 60, .inr (.inl zfL))), (u 3, .inl (g.2 2, 60, .inr (.inl zfL))), (u 4, .inl (g.2 2, 60, .inr (.inl zfL))), (u 5, .inl (g.2 2, 60, .inr (.inl zfL))), (u 6, .inl (g.2 0, 4, .inl zf)), (u 7, .inl (g.2 0, 4, .inl (fillF (-1) 4 zf)))])) (va_A [(h0, .inr (8, [.null, .null, .null]))] sz)) 7 252 (va_A [(h0, .inr (8, [.null, .null, .null]))] sz) := by
  refine cmet cX8_init "EbbWreck$Slots" (by decide) rfl rfl (Nat.le_of_ble_eq_true rfl) (fun p e s m below meth c E hr hlk hin hml hNW hsz hP hD ls hl => ?_)
  have hx := E.1
  have hb := E.2.1
  subst hsz
  generalize hAe : va_A [(h0, .inr (8, [.null, .null, .null]))] s.heap.size = A at hD ⊢
  have hA : ∀ q : Nat, s.heap.size ≤ q → A q := fun q h => by rw [← hAe]; exact Or.inr h
  have hS : va_S A s.heap s.heap [] := va_S.rf
  have hP : va_P g.1 vwCl [(h0, .inr (8, [.null, .null, .null]))] s.heap := hP
  have hl : lv_has ls 1 [(0, .ref h0)] := hl
  refine lv_aload_n hx hb dX8_init_0 rfl (lv_at hl 0 rfl) ?_
  refine cinit E hml hl.1 q472 dX8_init_1 (Nat.le_of_ble_eq_true rfl) (Nat.le_of_ble_eq_true rfl) ?_
  refine lv_aload_n hx hb dX8_init_4 rfl (lv_at hl 0 rfl) ?_
  refine lv_iconst (v := 4) hx hb dX8_init_5 (by decide) ?_
  refine lv_bipush (v := 60) hx hb dX8_init_6 (by decide) ?_
  refine cmna E hP hD hS hA q473 hNW.2.2.2.2.2 q493 (Nat.le_of_ble_eq_true rfl) (Nat.le_of_ble_eq_true rfl) dX8_init_8 (fun q1 H hP hD hS => ?_)
  rw [nu_eq] at hP hD
  have hP : va_P g.1 vwCl [(h0, .inr (8, [.null, .null, .null])), (q1, .inl (g.2 5, 4, .inr (.inr (.inr (.inr (nuG (q1 + 1) (q1 + 2) (q1 + 3) (q1 + 4))))))), (q1 + 1, .inl (g.2 2, 60, .inr (.inl zfL))), (q1 + 2, .inl (g.2 2, 60, .inr (.inl zfL))), (q1 + 3, .inl (g.2 2, 60, .inr (.inl zfL))), (q1 + 4, .inl (g.2 2, 60, .inr (.inl zfL)))] H := hP
  have hD : va_D A [(h0, .inr (8, [.null, .null, .null])), (q1, .inl (g.2 5, 4, .inr (.inr (.inr (.inr (nuG (q1 + 1) (q1 + 2) (q1 + 3) (q1 + 4))))))), (q1 + 1, .inl (g.2 2, 60, .inr (.inl zfL))), (q1 + 2, .inl (g.2 2, 60, .inr (.inl zfL))), (q1 + 3, .inl (g.2 2, 60, .inr (.inl zfL))), (q1 + 4, .inl (g.2 2, 60, .inr (.inl zfL)))] := hD
  refine cputF (ty := .array (.array .long)) (v := .ref q1) E hin hP hD hS 0 rfl rfl 0 (by decide) q478 rfl rfl (by decide +kernel) rfl rfl (Nat.le_of_ble_eq_true rfl) dX8_init_12 (fun H locs hP hD hS => ?_)
  have hP : va_P g.1 vwCl [(h0, .inr (8, [.ref q1, .null, .null])), (q1, .inl (g.2 5, 4, .inr (.inr (.inr (.inr (nuG (q1 + 1) (q1 + 2) (q1 + 3) (q1 + 4))))))), (q1 + 1, .inl (g.2 2, 60, .inr (.inl zfL))), (q1 + 2, .inl (g.2 2, 60, .inr (.inl zfL))), (q1 + 3, .inl (g.2 2, 60, .inr (.inl zfL))), (q1 + 4, .inl (g.2 2, 60, .inr (.inl zfL)))] H := hP
  have hD : va_D A [(h0, .inr (8, [.ref q1, .null, .null])), (q1, .inl (g.2 5, 4, .inr (.inr (.inr (.inr (nuG (q1 + 1) (q1 + 2) (q1 + 3) (q1 + 4))))))), (q1 + 1, .inl (g.2 2, 60, .inr (.inl zfL))), (q1 + 2, .inl (g.2 2, 60, .inr (.inl zfL))), (q1 + 3, .inl (g.2 2, 60, .inr (.inl zfL))), (q1 + 4, .inl (g.2 2, 60, .inr (.inl zfL)))] := hD
  refine lv_aload_n hx hb dX8_init_15 rfl (lv_at hl 0 rfl) ?_
  refine lv_iconst (v := 4) hx hb dX8_init_16 (by decide) ?_
  refine cnewa (a0 := (4, .inl zf)) E hP hD hS hA 0 q179 rfl rfl (fun _ h => h) (fun _ => rfl) (by decide) rfl (by decide) (Nat.le_of_ble_eq_true rfl) (Nat.le_of_ble_eq_true rfl) dX8_init_17 (fun q2 H hP hD hS => ?_)
  have hP : va_P g.1 vwCl [(h0, .inr (8, [.ref q1, .null, .null])), (q1, .inl (g.2 5, 4, .inr (.inr (.inr (.inr (nuG (q1 + 1) (q1 + 2) (q1 + 3) (q1 + 4))))))), (q1 + 1, .inl (g.2 2, 60, .inr (.inl zfL))), (q1 + 2, .inl (g.2 2, 60, .inr (.inl zfL))), (q1 + 3, .inl (g.2 2, 60, .inr (.inl zfL))), (q1 + 4, .inl (g.2 2, 60, .inr (.inl zfL))), (q2, .inl (g.2 0, 4, .inl zf))] H := hP
  have hD : va_D A [(h0, .inr (8, [.ref q1, .null, .null])), (q1, .inl (g.2 5, 4, .inr (.inr (.inr (.inr (nuG (q1 + 1) (q1 + 2) (q1 + 3) (q1 + 4))))))), (q1 + 1, .inl (g.2 2, 60, .inr (.inl zfL))), (q1 + 2, .inl (g.2 2, 60, .inr (.inl zfL))), (q1 + 3, .inl (g.2 2, 60, .inr (.inl zfL))), (q1 + 4, .inl (g.2 2, 60, .inr (.inl zfL))), (q2, .inl (g.2 0, 4, .inl zf))] := hD
  refine cputF (ty := .array .int) (v := .ref q2) E hin hP hD hS 0 rfl rfl 1 (by decide) q481 rfl rfl (by decide +kernel) rfl rfl (Nat.le_of_ble_eq_true rfl) dX8_init_19 (fun H locs hP hD hS => ?_)
  have hP : va_P g.1 vwCl [(h0, .inr (8, [.ref q1, .ref q2, .null])), (q1, .inl (g.2 5, 4, .inr (.inr (.inr (.inr (nuG (q1 + 1) (q1 + 2) (q1 + 3) (q1 + 4))))))), (q1 + 1, .inl (g.2 2, 60, .inr (.inl zfL))), (q1 + 2, .inl (g.2 2, 60, .inr (.inl zfL))), (q1 + 3, .inl (g.2 2, 60, .inr (.inl zfL))), (q1 + 4, .inl (g.2 2, 60, .inr (.inl zfL))), (q2, .inl (g.2 0, 4, .inl zf))] H := hP
  have hD : va_D A [(h0, .inr (8, [.ref q1, .ref q2, .null])), (q1, .inl (g.2 5, 4, .inr (.inr (.inr (.inr (nuG (q1 + 1) (q1 + 2) (q1 + 3) (q1 + 4))))))), (q1 + 1, .inl (g.2 2, 60, .inr (.inl zfL))), (q1 + 2, .inl (g.2 2, 60, .inr (.inl zfL))), (q1 + 3, .inl (g.2 2, 60, .inr (.inl zfL))), (q1 + 4, .inl (g.2 2, 60, .inr (.inl zfL))), (q2, .inl (g.2 0, 4, .inl zf))] := hD
  refine lv_aload_n hx hb dX8_init_22 rfl (lv_at hl 0 rfl) ?_
  refine lv_iconst (v := 4) hx hb dX8_init_23 (by decide) ?_
  refine cnewa (a0 := (4, .inl zf)) E hP hD hS hA 0 q179 rfl rfl (fun _ h => h) (fun _ => rfl) (by decide) rfl (by decide) (Nat.le_of_ble_eq_true rfl) (Nat.le_of_ble_eq_true rfl) dX8_init_24 (fun q3 H hP hD hS => ?_)
  have hP : va_P g.1 vwCl [(h0, .inr (8, [.ref q1, .ref q2, .null])), (q1, .inl (g.2 5, 4, .inr (.inr (.inr (.inr (nuG (q1 + 1) (q1 + 2) (q1 + 3) (q1 + 4))))))), (q1 + 1, .inl (g.2 2, 60, .inr (.inl zfL))), (q1 + 2, .inl (g.2 2, 60, .inr (.inl zfL))), (q1 + 3, .inl (g.2 2, 60, .inr (.inl zfL))), (q1 + 4, .inl (g.2 2, 60, .inr (.inl zfL))), (q2, .inl (g.2 0, 4, .inl zf)), (q3, .inl (g.2 0, 4, .inl zf))] H := hP
  have hD : va_D A [(h0, .inr (8, [.ref q1, .ref q2, .null])), (q1, .inl (g.2 5, 4, .inr (.inr (.inr (.inr (nuG (q1 + 1) (q1 + 2) (q1 + 3) (q1 + 4))))))), (q1 + 1, .inl (g.2 2, 60, .inr (.inl zfL))), (q1 + 2, .inl (g.2 2, 60, .inr (.inl zfL))), (q1 + 3, .inl (g.2 2, 60, .inr (.inl zfL))), (q1 + 4, .inl (g.2 2, 60, .inr (.inl zfL))), (q2, .inl (g.2 0, 4, .inl zf)), (q3, .inl (g.2 0, 4, .inl zf))] := hD
  refine cputF (ty := .array .int) (v := .ref q3) E hin hP hD hS 0 rfl rfl 2 (by decide) q483 rfl rfl (by decide +kernel) rfl rfl (Nat.le_of_ble_eq_true rfl) dX8_init_26 (fun H locs hP hD hS => ?_)
  have hP : va_P g.1 vwCl [(h0, .inr (8, [.ref q1, .ref q2, .ref q3])), (q1, .inl (g.2 5, 4, .inr (.inr (.inr (.inr (nuG (q1 + 1) (q1 + 2) (q1 + 3) (q1 + 4))))))), (q1 + 1, .inl (g.2 2, 60, .inr (.inl zfL))), (q1 + 2, .inl (g.2 2, 60, .inr (.inl zfL))), (q1 + 3, .inl (g.2 2, 60, .inr (.inl zfL))), (q1 + 4, .inl (g.2 2, 60, .inr (.inl zfL))), (q2, .inl (g.2 0, 4, .inl zf)), (q3, .inl (g.2 0, 4, .inl zf))] H := hP
  have hD : va_D A [(h0, .inr (8, [.ref q1, .ref q2, .ref q3])), (q1, .inl (g.2 5, 4, .inr (.inr (.inr (.inr (nuG (q1 + 1) (q1 + 2) (q1 + 3) (q1 + 4))))))), (q1 + 1, .inl (g.2 2, 60, .inr (.inl zfL))), (q1 + 2, .inl (g.2 2, 60, .inr (.inl zfL))), (q1 + 3, .inl (g.2 2, 60, .inr (.inl zfL))), (q1 + 4, .inl (g.2 2, 60, .inr (.inl zfL))), (q2, .inl (g.2 0, 4, .inl zf)), (q3, .inl (g.2 0, 4, .inl zf))] := hD
  refine lv_aload_n hx hb dX8_init_29 rfl (lv_at hl 0 rfl) ?_
  refine cget E hP 0 rfl rfl 2 (by decide) q483 rfl dX8_init_30 ?_
  refine lv_iconst (v := (-1)) hx hb dX8_init_33 (by decide) ?_
  refine cfill E hml hl.1 hP hD hS hA 7 (by decide) rfl mJ7_fill_53178 q475 ⟨(Nat.le_of_ble_eq_true rfl), (Nat.le_of_ble_eq_true rfl)⟩ ⟨(Nat.le_of_ble_eq_true rfl), (Nat.le_of_ble_eq_true rfl)⟩ (Nat.le_of_ble_eq_true rfl) dX8_init_34 (fun H locs hP hD hS => ?_)
  have hP : va_P g.1 vwCl [(h0, .inr (8, [.ref q1, .ref q2, .ref q3])), (q1, .inl (g.2 5, 4, .inr (.inr (.inr (.inr (nuG (q1 + 1) (q1 + 2) (q1 + 3) (q1 + 4))))))), (q1 + 1, .inl (g.2 2, 60, .inr (.inl zfL))), (q1 + 2, .inl (g.2 2, 60, .inr (.inl zfL))), (q1 + 3, .inl (g.2 2, 60, .inr (.inl zfL))), (q1 + 4, .inl (g.2 2, 60, .inr (.inl zfL))), (q2, .inl (g.2 0, 4, .inl zf)), (q3, .inl (g.2 0, 4, .inl (fillF (-1) 4 zf)))] H := hP
  have hD : va_D A [(h0, .inr (8, [.ref q1, .ref q2, .ref q3])), (q1, .inl (g.2 5, 4, .inr (.inr (.inr (.inr (nuG (q1 + 1) (q1 + 2) (q1 + 3) (q1 + 4))))))), (q1 + 1, .inl (g.2 2, 60, .inr (.inl zfL))), (q1 + 2, .inl (g.2 2, 60, .inr (.inl zfL))), (q1 + 3, .inl (g.2 2, 60, .inr (.inl zfL))), (q1 + 4, .inl (g.2 2, 60, .inr (.inl zfL))), (q2, .inl (g.2 0, 4, .inl zf)), (q3, .inl (g.2 0, 4, .inl (fillF (-1) 4 zf)))] := hD
  refine W.widen (k := 7) (n := 252) (Nat.le_of_ble_eq_true rfl) (Nat.le_of_ble_eq_true rfl) ?_
  exact W.vret hx hb hr (fun t ht hW => ⟨⟨adL [h0, q1, q1 + 1, q1 + 2, q1 + 3, q1 + 4, q2, q3], rfl, trivial, by rw [ht]; exact hP, hD⟩, hS.F ht⟩) hS.2.2 dX8_init_37 hlk
set_option maxHeartbeats 8000000 in
set_option maxRecDepth 100000 in
theorem kFloats (l : Launch) (g : GG) (sz : Nat) (h0 : Nat) (p1 : Nat) (p2 : Nat) : Met l yX3_init (wG (.code yX3_init cX3_init 3 none)) (RmC 1 2 61) (CPre g sz [(h0, .inr (3, [.null, .null, .null, .int 0, .null]))] [.ref h0, .ref p1, .ref p2]) (va_Qv (fun _ : Nat → Nat => True) (fun u t => va_P g.1 vwCl ([(h0, .inr (3, [.ref p1, .ref p2, .ref (u 1), .int 0, .ref (u 2)])), (u 1, .inl (g.2 0, 49, .inl zf)), (u 2, .inl (g.2 0, 12, .inl zf))]) t.heap ∧ va_D (va_A [(h0, .inr (3, [.null, .null, .null, .int 0, .null]))] sz) ([(h0, .inr (3, [.ref p1, .ref p2, .ref (u 1), .int 0, .ref (u 2)])), (u 1, .inl (g.2 0, 49, .inl zf)), (u 2, .inl (g.2 0, 12, .inl zf))])) (va_A [(h0, .inr (3, [.null, .null, .null, .int 0, .null]))] sz)) 2 61 (va_A [(h0, .inr (3, [.null, .null, .null, .int 0, .null]))] sz) := by
  refine cmet cX3_init "EbbWreck$Floats" (by decide) rfl rfl (Nat.le_of_ble_eq_true rfl) (fun p e s m below meth c E hr hlk hin hml hNW hsz hP hD ls hl => ?_)
  have hx := E.1
  have hb := E.2.1
  subst hsz
  generalize hAe : va_A [(h0, .inr (3, [.null, .null, .null, .int 0, .null]))] s.heap.size = A at hD ⊢
  have hA : ∀ q : Nat, s.heap.size ≤ q → A q := fun q h => by rw [← hAe]; exact Or.inr h
  have hS : va_S A s.heap s.heap [] := va_S.rf
  have hP : va_P g.1 vwCl [(h0, .inr (3, [.null, .null, .null, .int 0, .null]))] s.heap := hP
  have hl : lv_has ls 3 [(0, .ref h0), (1, .ref p1), (2, .ref p2)] := hl
  refine lv_aload_n hx hb dX3_init_0 rfl (lv_at hl 0 rfl) ?_
  refine cinit E hml hl.1 q499 dX3_init_1 (Nat.le_of_ble_eq_true rfl) (Nat.le_of_ble_eq_true rfl) ?_
  refine lv_aload_n hx hb dX3_init_4 rfl (lv_at hl 0 rfl) ?_
  refine lv_bipush (v := 49) hx hb dX3_init_5 (by decide) ?_
  refine cnewa (a0 := (49, .inl zf)) E hP hD hS hA 0 q179 rfl rfl (fun _ h => h) (fun _ => rfl) (by decide) rfl (by decide) (Nat.le_of_ble_eq_true rfl) (Nat.le_of_ble_eq_true rfl) dX3_init_7 (fun q1 H hP hD hS => ?_)
  have hP : va_P g.1 vwCl [(h0, .inr (3, [.null, .null, .null, .int 0, .null])), (q1, .inl (g.2 0, 49, .inl zf))] H := hP
  have hD : va_D A [(h0, .inr (3, [.null, .null, .null, .int 0, .null])), (q1, .inl (g.2 0, 49, .inl zf))] := hD
  refine cputF (ty := .array .int) (v := .ref q1) E hin hP hD hS 0 rfl rfl 2 (by decide) q502 rfl rfl (by decide +kernel) rfl rfl (Nat.le_of_ble_eq_true rfl) dX3_init_9 (fun H locs hP hD hS => ?_)
  have hP : va_P g.1 vwCl [(h0, .inr (3, [.null, .null, .ref q1, .int 0, .null])), (q1, .inl (g.2 0, 49, .inl zf))] H := hP
  have hD : va_D A [(h0, .inr (3, [.null, .null, .ref q1, .int 0, .null])), (q1, .inl (g.2 0, 49, .inl zf))] := hD
  refine lv_aload_n hx hb dX3_init_12 rfl (lv_at hl 0 rfl) ?_
  refine lv_bipush (v := 12) hx hb dX3_init_13 (by decide) ?_
  refine cnewa (a0 := (12, .inl zf)) E hP hD hS hA 0 q179 rfl rfl (fun _ h => h) (fun _ => rfl) (by decide) rfl (by decide) (Nat.le_of_ble_eq_true rfl) (Nat.le_of_ble_eq_true rfl) dX3_init_15 (fun q2 H hP hD hS => ?_)
  have hP : va_P g.1 vwCl [(h0, .inr (3, [.null, .null, .ref q1, .int 0, .null])), (q1, .inl (g.2 0, 49, .inl zf)), (q2, .inl (g.2 0, 12, .inl zf))] H := hP
  have hD : va_D A [(h0, .inr (3, [.null, .null, .ref q1, .int 0, .null])), (q1, .inl (g.2 0, 49, .inl zf)), (q2, .inl (g.2 0, 12, .inl zf))] := hD
  refine cputF (ty := .array .int) (v := .ref q2) E hin hP hD hS 0 rfl rfl 4 (by decide) q504 rfl rfl (by decide +kernel) rfl rfl (Nat.le_of_ble_eq_true rfl) dX3_init_17 (fun H locs hP hD hS => ?_)
  have hP : va_P g.1 vwCl [(h0, .inr (3, [.null, .null, .ref q1, .int 0, .ref q2])), (q1, .inl (g.2 0, 49, .inl zf)), (q2, .inl (g.2 0, 12, .inl zf))] H := hP
  have hD : va_D A [(h0, .inr (3, [.null, .null, .ref q1, .int 0, .ref q2])), (q1, .inl (g.2 0, 49, .inl zf)), (q2, .inl (g.2 0, 12, .inl zf))] := hD
  refine lv_aload_n hx hb dX3_init_20 rfl (lv_at hl 0 rfl) ?_
  refine lv_aload_n hx hb dX3_init_21 rfl (lv_at hl 1 rfl) ?_
  refine cputF (ty := .object "EbbWreck$Coast") (v := .ref p1) E hin hP hD hS 0 rfl rfl 0 (by decide) q500 rfl rfl (by decide +kernel) rfl rfl (Nat.le_of_ble_eq_true rfl) dX3_init_22 (fun H locs hP hD hS => ?_)
  have hP : va_P g.1 vwCl [(h0, .inr (3, [.ref p1, .null, .ref q1, .int 0, .ref q2])), (q1, .inl (g.2 0, 49, .inl zf)), (q2, .inl (g.2 0, 12, .inl zf))] H := hP
  have hD : va_D A [(h0, .inr (3, [.ref p1, .null, .ref q1, .int 0, .ref q2])), (q1, .inl (g.2 0, 49, .inl zf)), (q2, .inl (g.2 0, 12, .inl zf))] := hD
  refine lv_aload_n hx hb dX3_init_25 rfl (lv_at hl 0 rfl) ?_
  refine lv_aload_n hx hb dX3_init_26 rfl (lv_at hl 2 rfl) ?_
  refine cputF (ty := .object "EbbWreck$Slots") (v := .ref p2) E hin hP hD hS 0 rfl rfl 1 (by decide) q501 rfl rfl (by decide +kernel) rfl rfl (Nat.le_of_ble_eq_true rfl) dX3_init_27 (fun H locs hP hD hS => ?_)
  have hP : va_P g.1 vwCl [(h0, .inr (3, [.ref p1, .ref p2, .ref q1, .int 0, .ref q2])), (q1, .inl (g.2 0, 49, .inl zf)), (q2, .inl (g.2 0, 12, .inl zf))] H := hP
  have hD : va_D A [(h0, .inr (3, [.ref p1, .ref p2, .ref q1, .int 0, .ref q2])), (q1, .inl (g.2 0, 49, .inl zf)), (q2, .inl (g.2 0, 12, .inl zf))] := hD
  refine W.widen (k := 2) (n := 61) (Nat.le_of_ble_eq_true rfl) (Nat.le_of_ble_eq_true rfl) ?_
  exact W.vret hx hb hr (fun t ht hW => ⟨⟨adL [h0, q1, q2], rfl, trivial, by rw [ht]; exact hP, hD⟩, hS.F ht⟩) hS.2.2 dX3_init_30 hlk
