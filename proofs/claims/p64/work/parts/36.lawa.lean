/-! THE CLAIM OUT OF ONE WALK OF THE LAW'S BODY. Your part is whole_start (and what it stands on); all else here is the same for every law, but numbers. -/
def R_law : String := "EbbWreckLaw"
def lw_P (b : Addr) (xs : List Int32) (args : Array Value) (s : State) : Prop := args = #[.ref b] ∧ s.IntsAt b xs ∧ xs.length ≤ 3072 ∧ (Jvm.Cond.and given_1 narrow_1).before args s = true
def lw_Q (_ : Array Value) (s : State) (o : Outcome) (t : State) : Prop := o = .returned (some (.int 1)) ∧ Framed s o t [] 600000 7302250
def lw_Z (below : List Frame) (a : Array Value) (s : State) : State → Prop := fun t => ∃ o, t.status = .running ∧ Ended t below o ∧ lw_Q a s o t
/-- the law's own end, with 1 on the stack, nothing written that was there before, its room as the claim has it -/
theorem lw_ret {p : Program} {l : Launch} {e : Env} {s : State} {m : MethodId} {below : List Frame} {meth : Method} {c : Code} {b : Nat} (hx : p.tables.exec = Jvm.exec) (hb : c.code = code) (hr : meth.sig.returnType = ret) (hlocks : meth.locks = false) {pc : Nat} {H : Heap} {ls : Array Slot} (hdg : decode code pc = .ok (.ireturn, 1)) : W p l e room_1 s m #[Value.ref b] below meth c H [] 600000 7302250 (lw_Z below #[Value.ref b] s) (F0 m pc ls [.int 1]) := by
  intro T hT X
  obtain ⟨fs, hret, hrun, hended, hW, hframe⟩ := X.leave (v := some (.int 1)) (hlocks := hlocks) (fun h => by rw [hr] at h; cases h)
  have hmeth' : T.vm.method? m = some meth := X.method'
  refine ⟨T.setFrames fs, ?_, .returned (some (.int 1)), hrun, hended, rfl, ⟨_, rfl⟩, hW, hframe⟩
  jvm_step X.here [X.here.top, hx, hb, hdg, hmeth', hr, ret, narrow_b1]
  (try refine ⟨rfl, ?_⟩); (try refine ⟨rfl, ?_⟩)
  first | (intro acts; rw [hret _ acts rfl rfl rfl]) | rw [hret _ _ rfl rfl rfl]
  exact Steps.refl _
/-- what holds at the law's entry: the machine, the code, the tables' words (any of lw_tbl by 'hts w (by decide +kernel)'), the script of L ints xs at the cell b, what the Statement gives of the start (any of its parts by flat_of_before) -/
def lw_At (p : Program) (s : State) (m : MethodId) (meth : Method) (c : Code) (b L : Nat) (xs : Nat → Int32) : Prop :=
  p.tables.exec = Jvm.exec ∧ c.code = code ∧ meth.sig.returnType = ret ∧ c.maxLocals = 4 ∧ s.vm.findClass R_law = some m.cls ∧ (∀ w ∈ lw_tbl, w.before #[Value.ref b] s = true) ∧ va_X b L xs s s.heap ∧ b < s.heap.size ∧ meth.locks = false ∧ (Jvm.Cond.and given_1 narrow_1).before #[Value.ref b] s = true
theorem pw_kept {g : GG} {ad1 ad2 : Nat → Nat} {N1 N2 : Nat} {S2 : SS} {H H1 : Heap} (hP : PW g ad2 N2 S2 H) (hk : ∀ q : Nat, q < H.size → ¬ FA ad1 N1 q → H1[q]? = H[q]?) (hne : ∀ i j, i < N1 → j < N2 → ad1 i ≠ ad2 j) : PW g ad2 N2 S2 H1 := fun j hj => (hP j hj).kept (hk _ ((hP j hj).lt) (fun h => by obtain ⟨i, hi, e⟩ := h; exact hne i j hi hj e))
theorem kk_at {args : Array Value} {s : State} (hts : ∀ w ∈ lw_tbl, w.before args s = true) : ∃ g : GG, KK g s := by
  have hc : ∀ k : Nat, ∃ (cC : ClassId) (iS : Nat → Nat), ∀ q : vw_C, vwCl[k]? = some q → u_Kn s q.1 q.2.1 q.2.2 cC iS := by
    intro k
    match k with
    | 0 =>
      obtain ⟨cC, iS, h⟩ := u_known (C := RX0) (T := TX0) (N := 4) (n := 4) hts (fun w hw => (List.mem_filter.mp (iX0 w hw)).1) (hts (.instantiable RX0 4) (by decide +kernel))
      exact ⟨cC, iS, fun q hq => by cases hq; exact h⟩
    | 1 =>
      obtain ⟨cC, iS, h⟩ := u_known (C := RX1) (T := TX1) (N := 15) (n := 15) hts (fun w hw => (List.mem_filter.mp (iX1 w hw)).1) (hts (.instantiable RX1 15) (by decide +kernel))
      exact ⟨cC, iS, fun q hq => by cases hq; exact h⟩
    | 2 =>
      obtain ⟨cC, iS, h⟩ := u_known (C := RX2) (T := TX2) (N := 9) (n := 9) hts (fun w hw => (List.mem_filter.mp (iX2 w hw)).1) (hts (.instantiable RX2 9) (by decide +kernel))
      exact ⟨cC, iS, fun q hq => by cases hq; exact h⟩
    | 3 =>
      obtain ⟨cC, iS, h⟩ := u_known (C := RX3) (T := TX3) (N := 5) (n := 5) hts (fun w hw => (List.mem_filter.mp (iX3 w hw)).1) (hts (.instantiable RX3 5) (by decide +kernel))
      exact ⟨cC, iS, fun q hq => by cases hq; exact h⟩
    | 4 =>
      obtain ⟨cC, iS, h⟩ := u_known (C := RX4) (T := TX4) (N := 4) (n := 4) hts (fun w hw => (List.mem_filter.mp (iX4 w hw)).1) (hts (.instantiable RX4 4) (by decide +kernel))
      exact ⟨cC, iS, fun q hq => by cases hq; exact h⟩
    | 5 =>
      obtain ⟨cC, iS, h⟩ := u_known (C := RX5) (T := TX5) (N := 9) (n := 9) hts (fun w hw => (List.mem_filter.mp (iX5 w hw)).1) (hts (.instantiable RX5 9) (by decide +kernel))
      exact ⟨cC, iS, fun q hq => by cases hq; exact h⟩
    | 6 =>
      obtain ⟨cC, iS, h⟩ := u_known (C := RX6) (T := TX6) (N := 5) (n := 5) hts (fun w hw => (List.mem_filter.mp (iX6 w hw)).1) (hts (.instantiable RX6 5) (by decide +kernel))
      exact ⟨cC, iS, fun q hq => by cases hq; exact h⟩
    | 7 =>
      obtain ⟨cC, iS, h⟩ := u_known (C := RX7) (T := TX7) (N := 5) (n := 5) hts (fun w hw => (List.mem_filter.mp (iX7 w hw)).1) (hts (.instantiable RX7 5) (by decide +kernel))
      exact ⟨cC, iS, fun q hq => by cases hq; exact h⟩
    | 8 =>
      obtain ⟨cC, iS, h⟩ := u_known (C := RX8) (T := TX8) (N := 3) (n := 3) hts (fun w hw => (List.mem_filter.mp (iX8 w hw)).1) (hts (.instantiable RX8 3) (by decide +kernel))
      exact ⟨cC, iS, fun q hq => by cases hq; exact h⟩
    | 9 =>
      obtain ⟨cC, iS, h⟩ := u_known (C := RX9) (T := TX9) (N := 3) (n := 3) hts (fun w hw => (List.mem_filter.mp (iX9 w hw)).1) (hts (.instantiable RX9 3) (by decide +kernel))
      exact ⟨cC, iS, fun q hq => by cases hq; exact h⟩
    | 10 =>
      obtain ⟨cC, iS, h⟩ := u_known (C := RX10) (T := TX10) (N := 5) (n := 5) hts (fun w hw => (List.mem_filter.mp (iX10 w hw)).1) (hts (.instantiable RX10 5) (by decide +kernel))
      exact ⟨cC, iS, fun q hq => by cases hq; exact h⟩
    | 11 =>
      obtain ⟨cC, iS, h⟩ := u_known (C := RX11) (T := TX11) (N := 15) (n := 15) hts (fun w hw => (List.mem_filter.mp (iX11 w hw)).1) (hts (.instantiable RX11 15) (by decide +kernel))
      exact ⟨cC, iS, fun q hq => by cases hq; exact h⟩
    | 12 =>
      obtain ⟨cC, iS, h⟩ := u_known (C := RX12) (T := TX12) (N := 38) (n := 38) hts (fun w hw => (List.mem_filter.mp (iX12 w hw)).1) (hts (.instantiable RX12 38) (by decide +kernel))
      exact ⟨cC, iS, fun q hq => by cases hq; exact h⟩
    | k + 13 => exact ⟨0, fun _ => 0, fun q hq => by simp [vwCl] at hq⟩
  obtain ⟨c0, k0, m0, f0, g0, d0⟩ := Cond.arrayClass_spec (hts (.arrayClass .int) (by decide +kernel))
  obtain ⟨c1, k1, m1, f1, g1, d1⟩ := Cond.arrayClass_spec (hts (.arrayClass .byte) (by decide +kernel))
  obtain ⟨c2, k2, m2, f2, g2, d2⟩ := Cond.arrayClass_spec (hts (.arrayClass .long) (by decide +kernel))
  obtain ⟨c3, k3, m3, f3, g3, d3⟩ := Cond.arrayClass_spec (hts (.arrayClass .boolean) (by decide +kernel))
  obtain ⟨m4, c4, k4, x4, -, g4, d4, f4⟩ := Cond.arrayOver_spec (hts (.arrayOver (.object "EbbWreck$Coast")) (by decide +kernel))
  obtain ⟨m5, c5, k5, x5, g5, d5, f5⟩ := Cond.arrayOver_specA (hts (.arrayOver (.array .long)) (by decide +kernel))
  refine ⟨((fun k => Classical.choose (hc k), fun k => Classical.choose (Classical.choose_spec (hc k))), fun k => if k = 0 then c0 else if k = 1 then c1 else if k = 2 then c2 else if k = 3 then c3 else if k = 4 then c4 else c5), fun k q hq => Classical.choose_spec (Classical.choose_spec (hc k)) q hq, fun k q hq => ?_⟩
  match k, hq with
  | 0, hq => cases hq; exact ⟨fun N z => ⟨(fun k h => by cases h), k0, g0, m0, d0⟩, f0⟩
  | 1, hq => cases hq; exact ⟨fun N z => ⟨(fun k h => by cases h), k1, g1, m1, d1⟩, f1⟩
  | 2, hq => cases hq; exact ⟨fun N z => ⟨(fun k h => by cases h), k2, g2, m2, d2⟩, f2⟩
  | 3, hq => cases hq; exact ⟨fun N z => ⟨(fun k h => by cases h), k3, g3, m3, d3⟩, f3⟩
  | 4, hq => cases hq; exact ⟨fun N z => ⟨(fun k h => by cases h), k4, g4, m4, d4⟩, k4, m4, g4, d4, x4, f4⟩
  | 5, hq => cases hq; exact ⟨fun N z => ⟨(fun k h => by cases h), k5, g5, m5, d5⟩, f5⟩
  | k + 6, hq => simp [tysG] at hq
theorem nw_at {args : Array Value} {s : State} (hts : ∀ w ∈ lw_tbl, w.before args s = true) : NW s := ⟨va_Nw.of rfl (hts nlX (by decide +kernel)), va_Nw.of rfl (hts nlT (by decide +kernel)), va_Nw.of rfl (hts nlR (by decide +kernel)), va_Nw.of rfl (hts nlA (by decide +kernel)), va_AO.of (hts (.arrayOver (.object "EbbWreck$Coast")) (by decide +kernel)), (hts (.arrayOver (.array .long)) (by decide +kernel) : AOL s)⟩
theorem two_pools {g : GG} {ad1 ad2 : Nat → Nat} {N1 N2 : Nat} {S1 S2 : SS} {A : Nat → Prop} {H : Heap} (hP : va_P g.1 vwCl (wl ad1 N1 S1 ++ wl ad2 N2 S2) H) (hD : va_D A (wl ad1 N1 S1 ++ wl ad2 N2 S2)) : PW g ad1 N1 S1 H ∧ PW g ad2 N2 S2 H ∧ Dj ad1 N1 ∧ Dj ad2 N2 ∧ (∀ i, i < N1 → A (ad1 i)) ∧ (∀ i, i < N2 → A (ad2 i)) ∧ ∀ i j, i < N1 → j < N2 → ad1 i ≠ ad2 j := by
  have hlen : (wl ad1 N1 S1).length = N1 := by simp [wl]
  have e1 : ∀ i, i < N1 → (wl ad1 N1 S1 ++ wl ad2 N2 S2)[i]? = some (ad1 i, S1 i) := fun i hi => by
    rw [List.getElem?_append_left (by rw [hlen]; exact hi), wl_get hi]
  have e2 : ∀ i, i < N2 → (wl ad1 N1 S1 ++ wl ad2 N2 S2)[N1 + i]? = some (ad2 i, S2 i) := fun i hi => by
    rw [List.getElem?_append_right (by rw [hlen]; omega), hlen, show N1 + i - N1 = i by omega, wl_get hi]
  refine ⟨fun i hi => hP i _ (e1 i hi), fun i hi => hP _ _ (e2 i hi), fun i j hi hj h => hD.1 i j _ _ (e1 i hi) (e1 j hj) h, fun i j hi hj h => ?_, fun i hi => hD.2 i _ (e1 i hi), fun i hi => hD.2 _ _ (e2 i hi), fun i j hi hj h => ?_⟩
  · have := hD.1 (N1 + i) (N1 + j) _ _ (e2 i hi) (e2 j hj) h
    omega
  · have := hD.1 i (N1 + j) _ _ (e1 i hi) (e2 j hj) h
    omega
theorem tw_ex : ∀ i, i < 17 → Cond.exactly (.string "EbbWreck$Reader" (ixT.getD i 0)) "java/lang/String" ∈ flatC (Jvm.Cond.and given_1 narrow_1) := by decide +kernel
theorem tw_co : ∀ i, i < 17 → Cond.eq (.field (.string "EbbWreck$Reader" (ixT.getD i 0)) "java/lang/String" "coder" "B") (.int 0) ∈ flatC (Jvm.Cond.and given_1 narrow_1) := by decide +kernel
theorem tw_ar : ∀ i, i < 17 → Cond.arrayOf (.field (.string "EbbWreck$Reader" (ixT.getD i 0)) "java/lang/String" "value" "[B") .byte ∈ flatC (Jvm.Cond.and given_1 narrow_1) := by decide +kernel
theorem tw_le : ∀ i, i < 17 → Cond.eq (.length (.field (.string "EbbWreck$Reader" (ixT.getD i 0)) "java/lang/String" "value" "[B")) (.int (Int32.ofNat (lnT.getD i 0))) ∈ flatC (Jvm.Cond.and given_1 narrow_1) := by decide +kernel
theorem tw_el : ∀ i, i < 17 → ∀ j, j < lnT.getD i 0 → Cond.eq (.elem (.field (.string "EbbWreck$Reader" (ixT.getD i 0)) "java/lang/String" "value" "[B") (.int (Int32.ofNat j))) (.int ((byT.getD i []).getD j 0)) ∈ flatC (Jvm.Cond.and given_1 narrow_1) := by decide +kernel
theorem tw_sr : ∀ i, i < 17 → Cond.stringRef "EbbWreck$Reader" (ixT.getD i 0) (txT.getD i "") ∈ lw_tbl := by decide +kernel
def neP : Cond → Option (Nat × Nat)
  | .not (.eq (.string a x) (.string b y)) => if a = "EbbWreck$Reader" ∧ b = "EbbWreck$Reader" then some (x, y) else none
  | _ => none
theorem neP_mem {L : List Cond} {x y : Nat} (h : (x, y) ∈ L.filterMap neP) : Cond.not (.eq (.string "EbbWreck$Reader" x) (.string "EbbWreck$Reader" y)) ∈ L := by
  obtain ⟨c, hc, e⟩ := List.mem_filterMap.mp h
  unfold neP at e
  split at e
  · split at e
    · rename_i hab
      obtain ⟨ha, hb⟩ := hab
      injection e with e
      injection e with e1 e2
      subst ha; subst hb; subst e1; subst e2
      exact hc
    · exact absurd e (by simp)
  · exact absurd e (by simp)
def neQ : List (Nat × Nat) := (124, 130) :: (124, 137) :: (130, 137) :: (124, 139) :: (130, 139) :: (137, 139) :: (124, 141) :: (130, 141) :: (137, 141) :: (139, 141) :: (124, 143) :: (130, 143) :: (137, 143) :: (139, 143) :: (141, 143) :: (124, 99) :: (130, 99) :: (137, 99) :: (139, 99) :: (141, 99) :: (143, 99) :: (124, 167) :: (130, 167) :: (137, 167) :: (139, 167) :: (141, 167) :: (143, 167) :: (99, 167) :: (124, 104) :: (130, 104) :: (137, 104) :: (139, 104) :: (141, 104) :: (143, 104) :: (99, 104) :: (167, 104) :: (124, 109) :: (130, 109) :: (137, 109) :: (139, 109) :: (141, 109) :: (143, 109) :: (99, 109) :: (167, 109) :: (104, 109) :: (124, 175) :: (130, 175) :: (137, 175) :: (139, 175) :: (141, 175) :: (143, 175) :: (99, 175) :: (167, 175) :: (104, 175) :: (109, 175) :: (124, 180) :: (130, 180) :: (137, 180) :: (139, 180) :: (141, 180) :: (143, 180) :: (99, 180) :: (167, 180) :: (104, 180) :: (109, 180) :: (175, 180) :: (124, 185) :: (130, 185) :: (137, 185) :: (139, 185) :: (141, 185) :: (143, 185) :: (99, 185) :: (167, 185) :: (104, 185) :: (109, 185) :: (175, 185) :: (180, 185) :: (124, 114) :: (130, 114) :: (137, 114) :: (139, 114) :: (141, 114) :: (143, 114) :: (99, 114) :: (167, 114) :: (104, 114) :: (109, 114) :: (175, 114) :: (180, 114) :: (185, 114) :: (124, 199) :: (130, 199) :: (137, 199) :: (139, 199) :: (141, 199) :: (143, 199) :: (99, 199) :: (167, 199) :: (104, 199) :: (109, 199) :: (175, 199) :: (180, 199) :: (185, 199) :: (114, 199) :: (124, 201) :: (130, 201) :: (137, 201) :: (139, 201) :: (141, 201) :: (143, 201) :: (99, 201) :: (167, 201) :: (104, 201) :: (109, 201) :: (175, 201) :: (180, 201) :: (185, 201) :: (114, 201) :: (199, 201) :: (124, 119) :: (130, 119) :: (137, 119) :: (139, 119) :: (141, 119) :: (143, 119) :: (99, 119) :: (167, 119) :: (104, 119) :: (109, 119) :: (175, 119) :: (180, 119) :: (185, 119) :: (114, 119) :: (199, 119) :: (201, 119) :: []
theorem neQ_eq : (flatC (Jvm.Cond.and given_1 narrow_1)).filterMap neP = neQ := by decide +kernel
def neB (x y : Nat) : Bool := neQ.any fun q => (Nat.beq q.1 x && Nat.beq q.2 y) || (Nat.beq q.1 y && Nat.beq q.2 x)
theorem neB_mem {x y : Nat} (h : neB x y = true) : (x, y) ∈ neQ ∨ (y, x) ∈ neQ := by
  unfold neB at h
  obtain ⟨⟨a, b⟩, hq, e⟩ := List.any_eq_true.mp h
  simp only [Bool.or_eq_true, Bool.and_eq_true, Nat.beq_eq] at e
  rcases e with ⟨rfl, rfl⟩ | ⟨rfl, rfl⟩
  · exact Or.inl hq
  · exact Or.inr hq
theorem neQ_all : ∀ i, i < 17 → ∀ j, j < 17 → i = j ∨ neB (ixT.getD i 0) (ixT.getD j 0) = true := by decide +kernel
theorem tw_ne : ∀ i, i < 17 → ∀ j, j < 17 → i ≠ j → Cond.not (Cond.eq (.string "EbbWreck$Reader" (ixT.getD i 0)) (.string "EbbWreck$Reader" (ixT.getD j 0))) ∈ flatC (Jvm.Cond.and given_1 narrow_1) ∨ Cond.not (Cond.eq (.string "EbbWreck$Reader" (ixT.getD j 0)) (.string "EbbWreck$Reader" (ixT.getD i 0))) ∈ flatC (Jvm.Cond.and given_1 narrow_1) := fun i hi j hj h => by
  rcases neB_mem ((neQ_all i hi j hj).resolve_left h) with q | q
  · rw [← neQ_eq] at q; exact Or.inl (neP_mem q)
  · rw [← neQ_eq] at q; exact Or.inr (neP_mem q)
theorem tw_at {b : Nat} {s : State} (hgv : (Jvm.Cond.and given_1 narrow_1).before #[Value.ref b] s = true) (hts : ∀ w ∈ lw_tbl, w.before #[Value.ref b] s = true) : ∃ tt : TT, TW tt (fun q : Nat => s.heap.size ≤ q) s s.heap := by
  have hs := flat_of_before _ hgv
  have hA : ∀ a : Nat, a < s.heap.size → ¬ (fun q : Nat => s.heap.size ≤ q) a := fun a h => Nat.not_le.mpr h
  obtain ⟨adK, adV, h1, h2⟩ := vk_Sof (args := #[Value.ref b]) (s := s) (N := 17) (tm := fun i => .string "EbbWreck$Reader" (ixT.getD i 0)) (len := lnT) (byt := byT) (A := fun q : Nat => s.heap.size ≤ q)
    (by decide +kernel) (fun i hi => hs _ (tw_ex i hi)) (fun i hi => hs _ (tw_co i hi)) (fun i hi => hs _ (tw_ar i hi)) (fun i hi => hs _ (tw_le i hi))
    (fun i hi j hj => hs _ (tw_el i hi j hj))
    (fun i j hi hj hij => Or.elim (tw_ne i hi j hj hij) (fun h => Or.inl (hs _ h)) (fun h => Or.inr (hs _ h))) hA
  refine ⟨(adK, adV, 0), h1, va_Zof (hts (.laysStatic "java/lang/String" "COMPACT_STRINGS" "Z") (by decide +kernel)) (hts (.initialized "java/lang/String") (by decide +kernel)) (va_eqt (hs (.eq (.static "java/lang/String" "COMPACT_STRINGS" "Z") (.int 1)) (by decide +kernel))) hA, va_Zqof (hts (.laysStatic "jdk/internal/util/Preconditions" "SIOOBE_FORMATTER" "Ljava/util/function/BiFunction;") (by decide +kernel)) (hts (.initialized "jdk/internal/util/Preconditions") (by decide +kernel)) (hs (.isRef (.static "jdk/internal/util/Preconditions" "SIOOBE_FORMATTER" "Ljava/util/function/BiFunction;")) (by decide +kernel)) hA, fun i hi => vk_R.of (A := #[Value.ref b]) (hts _ (tw_sr i hi)) (h2 i hi)⟩
section XTL
variable {p : Program} {l : Launch} {e : Env} {R : Room} {s : State} {m : MethodId} {args : Array Value} {below : List Frame} {meth : Method} {c : Code} {H : Heap} {locs : List Loc} {cells slots : Nat} {Q : State → Prop}
variable {cc : ByteArray} {pc : Nat} {ls : Array Slot} {rest : List Value} {own : String} {g : GG} {tt : TT} {ad : Nat → Nat} {N : Nat} {S : SS} {A : Nat → Prop}
theorem xcViL {y : MethodName} {bytes : ByteArray} {maxL n nL index d : Nat} {ret : Option FieldType} {post : Int32 → SS → Prop} {As : List Value} (E : Ev p s m args c cc own g) (hs : Sp ad N A) (hQ : Hp g ad N S A s.heap H locs) (hml : c.maxLocals = nL) (hls : ls.size = nL) (hT : TW tt A s s.heap) (k : Nat)
    (hM : Met l y (wG (.code y bytes maxL ret)) (Rm d) (XPreT g tt ad N S (.ref (ad k) :: As)) (va_Qi post (QB g ad N) (FA ad N)) 0 0 (FA ad N)) {q : vw_C} (hC : CmV q.1 y bytes maxL ret n) (hq : Cond.methodLink own index y ∈ lw_g) (hk : k < N) {ci : Nat} {fs : List Value} (hS : S k = .inr (ci, fs)) (hc : vwCl[ci]? = some q) (hn : As.length = n) (hcs : cells ≤ R.cells ∧ slots ≤ R.slots) (hR : d + 1 ≤ R.frames ∧ 8 + (maxL + 11) + 64 * d ≤ R.locals) (hrest : (rest.map fun v => v.category).sum ≤ 8) {st : List Value} (hst : st = As.reverse ++ .ref (ad k) :: rest) (hdg : decode cc pc = .ok (.invokevirtual index, 3))
    (kk : ∀ (r : Int32) (S' : SS) (H1 : Heap) (locs1 : List Loc), post r S' → Hp g ad N S' A s.heap H1 locs1 → (∀ q : Nat, q < H.size → ¬ FA ad N q → H1[q]? = H[q]?) → W p l e R s m args below meth c H1 locs1 cells slots Q (F0 m (pc + 3) ls (.int r :: rest))) : W p l e R s m args below meth c H locs cells slots Q (F0 m pc ls st) := by
  refine va_calli (va_runV (As := As) (rest := rest) ⟨E.1, E.2.1, hml, E.2.2.1, E.2.2.2.1⟩ hM (cwG E.2.2.2.1 hC hq hR) ⟨XPreT.blind, va_recv (ws := wl ad N S) (q0 := k) E.2.2.2.2 hQ.1.toP hc (by rw [wl_get hk, hS]), fun U hU hW => ⟨⟨rfl, by rw [hU]; exact hQ.1, va_K.moved hW.alike E.2.2.2.2⟩, (hT.go hQ.2 hU hW).narrow (fa_in hs)⟩⟩ rfl hn hls hst (lv_room hrest) hdg hcs) hQ.2 (fun q _ h => fa_in hs q h) (fa_in hs) (fun r u t H1 locs1 ht hvm hp hB hz hk1 hS1 => ?_)
  exact kk r u H1 locs1 hp ⟨by rw [← ht]; exact hB, hS1⟩ hk1
end XTL
