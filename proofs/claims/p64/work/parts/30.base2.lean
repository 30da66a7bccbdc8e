/-! constructors: the world as a list of cells; rows over it -/
/-- words that are not among the good ones: the nest's constructors, the arrays of references -/
def AOL (U : State) : Prop := (Cond.arrayOver (.array .long)).before #[] U = true
theorem AOL.moved {u U : State} (hvm : u.vm.Alike U.vm) (h : AOL u) : AOL U := by
  unfold AOL Cond.before Cond.holds at h
  simp only [Cond.value, beq_iff_eq] at h
  cases hc : u.vm.findClass (FieldType.array .long).toString with
  | none => simp [hc] at h
  | some comp =>
    simp only [hc, Option.bind_some, Option.bind_eq_some_iff, Option.map_eq_some_iff] at h
    obtain ⟨c, hi, k, hk, hb⟩ := h
    obtain ⟨k', hk', he⟩ := hvm.2.2 _ _ hk
    have hi' : (U.vm.classes.findIdx? fun (x : Class) => match x.kind with | .array component _ => component == comp | _ => false) = some c := by
      have e1 := va_idx_bare U.vm comp
      have e2 := va_idx_bare u.vm comp
      have hbq := hvm.bare_eq
      first | exact (e1.symm.trans ((by rw [hbq]) : _ = _)).trans (e2.trans hi) | exact (e1.symm.trans ((by rw [← hbq]) : _ = _)).trans (e2.trans hi)
    have hkind : k'.kind = k.kind := by rw [he]
    have f1 : U.vm.findClass (FieldType.array .long).toString = some comp := by rw [hvm.findClass]; exact hc
    unfold AOL Cond.before Cond.holds
    simp only [Cond.value]
    rw [f1, Option.bind_some]
    refine (congrArg (fun o : Option Nat => (o.bind (fun c => (U.vm.classes[c]?).map fun (k : Class) => match k.kind with | .array _ ty => decide (ty = FieldType.array .long) && decide (U.vm.findClass ("[" ++ (FieldType.array .long).toString) = some c) | _ => false) == some true)) hi').trans ?_
    simp only [Option.bind_some, hk', Option.map_some, hkind, hvm.findClass]
    rw [beq_iff_eq]
    exact congrArg some hb
def nlX : Cond := .methodLinkNest "EbbWreck" 25 ⟨"EbbWreck$Coast", "<init>", "()V"⟩ "EbbWreck"
def nlT : Cond := .methodLinkNest "EbbWreck$Coast" 11 ⟨"EbbWreck$Tide", "<init>", "()V"⟩ "EbbWreck"
def nlR : Cond := .methodLinkNest "EbbWreck$Coast" 36 ⟨"EbbWreck$RuleBook", "<init>", "()V"⟩ "EbbWreck"
def nlA : Cond := .methodLinkNest "EbbWreck$Coast" 46 ⟨"EbbWreck$Acts", "<init>", "()V"⟩ "EbbWreck"
def NW (U : State) : Prop := va_Nw nlX U ∧ va_Nw nlT U ∧ va_Nw nlR U ∧ va_Nw nlA U ∧ va_AO "EbbWreck$Coast" U ∧ AOL U
theorem NW.warm {s U : State} (hW : s.WarmedH U.vm) (h : NW s) : NW U := ⟨va_Nw.warmM hW h.1, va_Nw.warmM hW h.2.1, va_Nw.warmM hW h.2.2.1, va_Nw.warmM hW h.2.2.2.1, h.2.2.2.2.1.moved hW.alike, h.2.2.2.2.2.moved hW.alike⟩
theorem NW.same {u U : State} (e : u.vm = U.vm) (h : NW u) : NW U := ⟨va_Nw.same rfl e h.1, va_Nw.same rfl e h.2.1, va_Nw.same rfl e h.2.2.1, va_Nw.same rfl e h.2.2.2.1, h.2.2.2.2.1.moved (e ▸ Vm.Alike.refl u.vm), h.2.2.2.2.2.moved (e ▸ Vm.Alike.refl u.vm)⟩
def CPre (g : GG) (sz : Nat) (ws : va_W) (av : List Value) : Array Value → State → Prop := fun v U => v = av.toArray ∧ U.heap.size = sz ∧ va_P g.1 vwCl ws U.heap ∧ KK g U ∧ va_D (fun _ => True) ws ∧ NW U
theorem CPre.blind {g : GG} {sz : Nat} {ws : va_W} {av : List Value} : FrameBlind (CPre g sz ws av) := fun a U gf mk q => by
  obtain ⟨q0, q1, q2, q3, q4, q5⟩ := q
  exact ⟨q0, q1, q2, va_K.moved (u := U) (U := U.calling gf mk a) (Vm.Alike.refl U.vm) q3, q4, NW.same (u := U) rfl q5⟩
abbrev RmC (d mc ms : Nat) : Room := { frames := d, cells := mc, slots := ms, locals := 64 * d }
def adL (l : List Nat) : Nat → Nat := fun i => l.getD i 0
theorem va_nd_of : ∀ {l : List Nat}, l.Nodup → va_nd l = true
  | [], _ => rfl
  | a :: l, h => by
    have h1 := List.nodup_cons.mp h
    unfold va_nd
    rw [va_nd_of h1.2, decide_eq_true h1.1]
    rfl
theorem va_nd_range (n : Nat) : va_nd (List.range n) = true := va_nd_of List.nodup_range
theorem va_D_addr {A : Nat → Prop} {ws ws1 : va_W} (h : ws.map (fun x => x.1) = ws1.map (fun x => x.1)) (hD : va_D A ws) : va_D A ws1 := by
  have key : ∀ (k : Nat) (q : Nat × va_E), ws1[k]? = some q → ∃ e : va_E, ws[k]? = some (q.1, e) := fun k q hq => by
    have h1 : (ws1.map (fun x => x.1))[k]? = some q.1 := by rw [List.getElem?_map, hq]; rfl
    rw [← h, List.getElem?_map] at h1
    cases hk : ws[k]? with
    | none => rw [hk] at h1; cases h1
    | some x =>
      rw [hk] at h1
      have : x.1 = q.1 := Option.some.inj h1
      exact ⟨x.2, by rw [← this]⟩
  refine ⟨fun i j p q hp hq e => ?_, fun k q hq => ?_⟩
  · obtain ⟨e1, h1⟩ := key i p hp
    obtain ⟨e2, h2⟩ := key j q hq
    exact hD.1 i j _ _ h1 h2 e
  · obtain ⟨e1, h1⟩ := key k q hq
    exact hD.2 k (q.1, e1) h1
section CR
variable {p : Program} {l : Launch} {e : Env} {R : Room} {s : State} {m : MethodId} {args : Array Value} {below : List Frame} {meth : Method} {c : Code} {H : Heap} {locs : List Loc} {cells slots : Nat} {Q : State → Prop}
variable {cc : ByteArray} {pc : Nat} {ls : Array Slot} {rest : List Value} {own : String} {g : GG} {ws : va_W} {A : Nat → Prop} {H0 : Heap}
theorem cinit (E : Ev p s m args c cc own g) {nL : Nat} (hml : c.maxLocals = nL) (hls : ls.size = nL) {idx : Nat} (hq : Cond.methodLink own idx objectInit ∈ lw_g) {a : Nat} (hd : decode cc pc = .ok (.invokespecial idx, 3)) (hframes : 1 ≤ R.frames) (hlocals : (rest.map fun v => v.category).sum + 12 ≤ R.locals)
    (kk : W p l e R s m args below meth c H locs cells slots Q (F0 m (pc + 3) ls rest)) : W p l e R s m args below meth c H locs cells slots Q (F0 m pc ls (.ref a :: rest)) :=
  W.objInit E.1 E.2.1 E.2.2.1 (E.2.2.2.1 _ hq) (E.2.2.2.1 _ (mg (by decide +kernel) rfl)) (E.2.2.2.1 _ (mg (by decide +kernel) rfl)) rfl (hls.trans hml.symm) rfl hd hframes (by have : 2 * (F0 m pc ls (Value.ref a :: rest)).monitorRoom = 0 := rfl; omega) kk
theorem cnewa (E : Ev p s m args c cc own g) (hP : va_P g.1 vwCl ws H) (hD : va_D A ws) (hS : va_S A H0 H locs) (hA : ∀ q, H0.size ≤ q → A q) (t0 : Nat) {cA0 : ClassId} {ty : FieldType} {atype : ArrayType} (hq : Cond.arrayClass ty ∈ lw_g) (ht : (tysG g)[t0]? = some (cA0, ty)) (hty : newarray.typeOf atype = ty) (hra : ∀ c : ClassId, va_RA s c ty → s.vm.findClass ("[" ++ ty.toString) = some c)
    {n : Int32} {N' : Nat} {a0 : vp_A} (ha : ∀ cA : ClassId, vp_cell cA a0 = arrV cA N' (fun _ => defaultValue ty)) (hn : ¬ n < 0) (hN : n.toNatClampNeg = N') (hbytes : N' * componentBytes ty ≤ 536870912) (hcells : cells + 1 ≤ R.cells) (hslots : slots + N' ≤ R.slots) (hdg : decode cc pc = .ok (.newarray atype, 2))
    (kk : ∀ (q : Nat) (H1 : Heap), va_P g.1 vwCl (ws ++ [(q, .inl (cA0, a0))]) H1 → va_D A (ws ++ [(q, .inl (cA0, a0))]) → va_S A H0 H1 locs → W p l e R s m args below meth c H1 locs (cells + 1) (slots + N') Q (F0 m (pc + 2) ls (.ref q :: rest))) : W p l e R s m args below meth c H locs cells slots Q (F0 m pc ls (.int n :: rest)) := by
  subst hty
  refine va_newa E.1 E.2.1 (E.2.2.2.1 _ hq) rfl E.2.2.2.2 hP hD hS hA ha hn hN hbytes hcells hslots hdg (fun q cA H1 hK1 hP1 hD1 hS1 => ?_)
  have h1 := hra _ (hK1.2 6 (cA, newarray.typeOf atype) rfl).2
  have h2 := hra _ (E.2.2.2.2.2 t0 _ ht).2
  have e : cA = cA0 := Option.some.inj (h1.symm.trans h2)
  subst e
  exact kk q H1 hP1 hD1 hS1
theorem cnew (E : Ev p s m args c cc own g) (hP : va_P g.1 vwCl ws H) (hD : va_D A ws) (hS : va_S A H0 H locs) (hA : ∀ q, H0.size ≤ q → A q) {C : String} {T : u_T} {N ci index : Nat} (hc : vwCl[ci]? = some (C, T, N)) (hq1 : Cond.classLink own index C ∈ lw_g) (hq2 : Cond.instantiable C N ∈ lw_g) (hq3 : Cond.initialized C ∈ lw_g) (ty : Nat → FieldType) (hty : ∀ k, k < N → parseFieldDescriptor (T k).2.2.1 = some (ty k)) {fs : List Value} (hfs : ∀ j, j < N → defaultValue (ty j) = vp_V fs j) (hcells : cells + 1 ≤ R.cells) (hslots : slots + N ≤ R.slots) (hdg : decode cc pc = .ok (.new index, 3))
    (kk : ∀ (q : Nat) (H1 : Heap), va_P g.1 vwCl (ws ++ [(q, .inr (ci, fs))]) H1 → va_D A (ws ++ [(q, .inr (ci, fs))]) → va_S A H0 H1 locs → W p l e R s m args below meth c H1 locs (cells + 1) (slots + N) Q (F0 m (pc + 3) ls (.ref q :: rest))) : W p l e R s m args below meth c H locs cells slots Q (F0 m pc ls rest) :=
  va_new E.1 E.2.1 E.2.2.2.1 (clAll hc).1 ty hty E.2.2.1 (E.2.2.2.1 _ hq1) (E.2.2.2.1 _ hq2) (E.2.2.2.1 _ hq3) E.2.2.2.2 hP hD hS hA hc hfs hcells hslots hdg kk
theorem cputF (E : Ev p s m args c cc own g) (hin : meth.name = "<init>") (hP : va_P g.1 vwCl ws H) (hD : va_D A ws) (hS : va_S A H0 H locs) (q0 : Nat) {a ci : Nat} {fs : List Value} (he : ws[q0]? = some (a, .inr (ci, fs))) {C : String} {T : u_T} {N : Nat} (hc : vwCl[ci]? = some (C, T, N)) (j : Nat) (hj : j < N) {index : Nat} (hq : Cond.fieldLink own index (T j).1 (T j).2.1 (T j).2.2.1 ∈ lw_g) (hfin : (T j).2.2.2 = true) (hdecl : (T j).1 = own) {ty : FieldType} {v : Value} (hd : parseFieldDescriptor (T j).2.2.1 = some ty) (hn : narrow ty v = v) (hfit : fits ty v = true) (hl : j < fs.length) (hdg : decode cc pc = .ok (.putfield index, 3))
    (kk : ∀ (H1 : Heap) (locs1 : List Loc), va_P g.1 vwCl (ws.set q0 (a, .inr (ci, fs.set j v))) H1 → va_D A (ws.set q0 (a, .inr (ci, fs.set j v))) → va_S A H0 H1 locs1 → W p l e R s m args below meth c H1 locs1 cells slots Q (F0 m (pc + 3) ls rest)) : W p l e R s m args below meth c H locs cells slots Q (F0 m pc ls (v :: .ref a :: rest)) := by
  obtain ⟨ty0, hty⟩ := (clAll hc).2.1
  exact va_putF E.1 E.2.1 E.2.2.2.1 (clAll hc).1 ty0 hty (clAll hc).2.2 E.2.2.1 E.2.2.2.2 hP hD hS q0 he hc j hj (E.2.2.2.1 _ hq) (fun _ h => h) hfin hin hdecl hd hn hfit hl hdg kk
theorem cput (E : Ev p s m args c cc own g) (hP : va_P g.1 vwCl ws H) (hD : va_D A ws) (hS : va_S A H0 H locs) (q0 : Nat) {a ci : Nat} {fs : List Value} (he : ws[q0]? = some (a, .inr (ci, fs))) {C : String} {T : u_T} {N : Nat} (hc : vwCl[ci]? = some (C, T, N)) (j : Nat) (hj : j < N) {index : Nat} (hq : Cond.fieldLink own index (T j).1 (T j).2.1 (T j).2.2.1 ∈ lw_g) (hfin : (T j).2.2.2 = false) {ty : FieldType} {v : Value} (hd : parseFieldDescriptor (T j).2.2.1 = some ty) (hn : narrow ty v = v) (hfit : fits ty v = true) (hl : j < fs.length) (hdg : decode cc pc = .ok (.putfield index, 3))
    (kk : ∀ (H1 : Heap) (locs1 : List Loc), va_P g.1 vwCl (ws.set q0 (a, .inr (ci, fs.set j v))) H1 → va_D A (ws.set q0 (a, .inr (ci, fs.set j v))) → va_S A H0 H1 locs1 → W p l e R s m args below meth c H1 locs1 cells slots Q (F0 m (pc + 3) ls rest)) : W p l e R s m args below meth c H locs cells slots Q (F0 m pc ls (v :: .ref a :: rest)) := by
  obtain ⟨ty0, hty⟩ := (clAll hc).2.1
  exact va_put E.1 E.2.1 E.2.2.2.1 (clAll hc).1 ty0 hty (clAll hc).2.2 E.2.2.1 E.2.2.2.2 hP hD hS q0 he hc j hj (E.2.2.2.1 _ hq) (fun _ h => h) hfin hd hn hfit hl hdg kk
theorem cget (E : Ev p s m args c cc own g) (hP : va_P g.1 vwCl ws H) (q0 : Nat) {a ci : Nat} {fs : List Value} (he : ws[q0]? = some (a, .inr (ci, fs))) {C : String} {T : u_T} {N : Nat} (hc : vwCl[ci]? = some (C, T, N)) (j : Nat) (hj : j < N) {index : Nat} (hq : Cond.fieldLink own index (T j).1 (T j).2.1 (T j).2.2.1 ∈ lw_g) {v : Value} (hv : fs[j]? = some v) (hdg : decode cc pc = .ok (.getfield index, 3))
    (kk : W p l e R s m args below meth c H locs cells slots Q (F0 m (pc + 3) ls (v :: rest))) : W p l e R s m args below meth c H locs cells slots Q (F0 m pc ls (.ref a :: rest)) :=
  va_get E.1 E.2.1 E.2.2.2.1 (clAll hc).1 E.2.2.1 E.2.2.2.2 hP q0 he hc j hj (E.2.2.2.1 _ hq) (fun _ h => h) hv hdg kk
theorem cnewq (E : Ev p s m args c cc own g) (hP : va_P g.1 vwCl ws H) (hD : va_D A ws) (hS : va_S A H0 H locs) (hA : ∀ q, H0.size ≤ q → A q) {index : Nat} (hq1 : Cond.classLink own index "EbbWreck$Coast" ∈ lw_g) (hts2 : va_AO "EbbWreck$Coast" s)
    {n : Int32} {N' : Nat} (hn : ¬ n < 0) (hN : n.toNatClampNeg = N') (hbytes : N' * 4 ≤ 536870912) (hcells : cells + 1 ≤ R.cells) (hslots : slots + N' ≤ R.slots) (hdg : decode cc pc = .ok (.anewarray index, 3))
    (kk : ∀ (q : Nat) (H1 : Heap), va_P g.1 vwCl (ws ++ [(q, .inl (g.2 4, N', .inr (.inr (.inr (.inr (fun _ => none))))))]) H1 → va_D A (ws ++ [(q, .inl (g.2 4, N', .inr (.inr (.inr (.inr (fun _ => none))))))]) → va_S A H0 H1 locs → W p l e R s m args below meth c H1 locs (cells + 1) (slots + N') Q (F0 m (pc + 3) ls (.ref q :: rest))) : W p l e R s m args below meth c H locs cells slots Q (F0 m pc ls (.int n :: rest)) := by
  refine va_newq E.1 E.2.1 E.2.2.1 (E.2.2.2.1 _ hq1) hts2 E.2.2.2.2 hP hD hS hA hn hN hbytes hcells hslots hdg (fun q cA H1 hK1 hP1 hD1 hS1 => ?_)
  obtain ⟨-, -, -, -, -, h1⟩ := (hK1.2 6 (cA, .object "EbbWreck$Coast") rfl).2
  obtain ⟨-, -, -, -, -, h2⟩ := (E.2.2.2.2.2 4 _ rfl).2
  have e : cA = g.2 4 := Option.some.inj (h1.symm.trans h2)
  subst e
  exact kk q H1 hP1 hD1 hS1
theorem castq (E : Ev p s m args c cc own g) (hP : va_P g.1 vwCl ws H) (hD : va_D A ws) (hS : va_S A H0 H locs) (q0 qk : Nat) {a n v : Nat} {vs : List Value} {f : Nat → Option Nat} (ha : ws[q0]? = some (a, .inl (g.2 4, n, .inr (.inr (.inr (.inr f)))))) (hv : ws[qk]? = some (v, .inr (1, vs))) {i : Int32} (hin : vp_in i n) (hdg : decode cc pc = .ok (.aastore, 1))
    (kk : ∀ (H1 : Heap) (locs1 : List Loc), va_P g.1 vwCl (ws.set q0 (a, .inl (g.2 4, n, .inr (.inr (.inr (.inr (va_up f i.toNatClampNeg (some v)))))))) H1 → va_D A (ws.set q0 (a, .inl (g.2 4, n, .inr (.inr (.inr (.inr (va_up f i.toNatClampNeg (some v)))))))) → va_S A H0 H1 locs1 → W p l e R s m args below meth c H1 locs1 cells slots Q (F0 m (pc + 1) ls rest)) : W p l e R s m args below meth c H locs cells slots Q (F0 m pc ls (.ref v :: .int i :: .ref a :: rest)) :=
  va_astq E.1 E.2.1 E.2.2.2.2 hP hD hS q0 4 qk 1 ha rfl hv rfl hin hdg kk
theorem ciast (E : Ev p s m args c cc own g) (hP : va_P g.1 vwCl ws H) (hD : va_D A ws) (hS : va_S A H0 H locs) (q0 : Nat) {a n : Nat} {f : Nat → Int32} (ha : ws[q0]? = some (a, .inl (g.2 0, n, .inl f))) {i x : Int32} (hin : vp_in i n) (hdg : decode cc pc = .ok (.iastore, 1))
    (kk : ∀ (H1 : Heap) (locs1 : List Loc), va_P g.1 vwCl (ws.set q0 (a, .inl (g.2 0, n, .inl (upd f i.toNatClampNeg x)))) H1 → va_D A (ws.set q0 (a, .inl (g.2 0, n, .inl (upd f i.toNatClampNeg x)))) → va_S A H0 H1 locs1 → W p l e R s m args below meth c H1 locs1 cells slots Q (F0 m (pc + 1) ls rest)) : W p l e R s m args below meth c H locs cells slots Q (F0 m pc ls (.int x :: .int i :: .ref a :: rest)) :=
  va_iast E.1 E.2.1 E.2.2.2.2 hP hD hS q0 0 ha rfl hin hdg kk
theorem dapp {h : Nat} {news : va_W} (hD : va_D A ws) (hlt : ∀ (k : Nat) (x : Nat × va_E), ws[k]? = some x → x.1 < h) (hge : ∀ (k : Nat) (x : Nat × va_E), news[k]? = some x → h ≤ x.1) (hN : va_D A news) : va_D A (ws ++ news) :=
  hD.app hN (fun i j p q hp hq e => by have := hlt i p hp; have := hge j q hq; omega)
theorem cmna (E : Ev p s m args c cc own g) (hP : va_P g.1 vwCl ws H) (hD : va_D A ws) (hS : va_S A H0 H locs) (hA : ∀ q, H0.size ≤ q → A q) {index : Nat} (hq1 : Cond.classLink own index ("[" ++ (FieldType.array .long).toString) ∈ lw_g) (hAO : AOL s) (hq3 : Cond.arrayClass .long ∈ lw_g) (hcells : cells + 5 ≤ R.cells) (hslots : slots + 244 ≤ R.slots) (hdg : decode cc pc = .ok (.multianewarray index 2, 4))
    (kk : ∀ (q : Nat) (H1 : Heap), va_P g.1 vwCl (ws ++ [(q, .inl (g.2 5, 4, .inr (.inr (.inr (.inr (fun i => if i < 4 then some (q + 1 + i) else none)))))), (q + 1, .inl (g.2 2, 60, .inr (.inl (fun _ => 0)))), (q + 2, .inl (g.2 2, 60, .inr (.inl (fun _ => 0)))), (q + 3, .inl (g.2 2, 60, .inr (.inl (fun _ => 0)))), (q + 4, .inl (g.2 2, 60, .inr (.inl (fun _ => 0))))]) H1 → va_D A (ws ++ [(q, .inl (g.2 5, 4, .inr (.inr (.inr (.inr (fun i => if i < 4 then some (q + 1 + i) else none)))))), (q + 1, .inl (g.2 2, 60, .inr (.inl (fun _ => 0)))), (q + 2, .inl (g.2 2, 60, .inr (.inl (fun _ => 0)))), (q + 3, .inl (g.2 2, 60, .inr (.inl (fun _ => 0)))), (q + 4, .inl (g.2 2, 60, .inr (.inl (fun _ => 0))))]) → va_S A H0 H1 locs →
      W p l e R s m args below meth c H1 locs (cells + 5) (slots + 244) Q (F0 m (pc + 4) ls (.ref q :: rest))) : W p l e R s m args below meth c H locs cells slots Q (F0 m pc ls (.int 60 :: .int 4 :: rest)) := by
  intro T hT Xs
  obtain ⟨vm₁, cA, comp, -, fA, fC, hO, -, X', step⟩ := Jvm.Stand.multianewarray2F Xs E.1 E.2.2.1 (E.2.2.2.1 _ hq1) hAO (E.2.2.2.1 _ hq3) (g := F0 m pc ls (.int 60 :: .int 4 :: rest)) rfl (by rw [E.2.1]; exact hdg) (n := 4) (k := 60) rfl (by decide) (by decide) (by decide) (by decide) (by decide) rfl rfl hcells hslots
  have h2 := (E.2.2.2.2.2 5 _ rfl).2
  have h3 := (E.2.2.2.2.2 2 _ rfl).2
  have e1 : cA = g.2 5 := Option.some.inj (fA.symm.trans h2)
  have e2 : comp = g.2 2 := Option.some.inj (fC.symm.trans h3)
  subst e1
  subst e2
  have hTh : (T.setVm vm₁).heap = H := hT
  generalize hF : Jvm.Free.Multi.fill (T.setVm vm₁) (g.2 5) (g.2 2) (4 : Int32).toNatClampNeg (60 : Int32).toNatClampNeg (defaultValue .long) (4 : Int32).toNatClampNeg = F at X' step
  obtain ⟨f1, f2, -, -⟩ := Jvm.Free.Multi.fill_facts (T.setVm vm₁) (g.2 5) (g.2 2) (4 : Int32).toNatClampNeg (60 : Int32).toNatClampNeg (defaultValue .long) (4 : Int32).toNatClampNeg
  rw [hF, hTh] at f1 f2
  have hold : ∀ x : Nat, x < H.size → F.heap[x]? = H[x]? := fun x hx => by
    have := Jvm.Free.Multi.fill_old (T.setVm vm₁) (g.2 5) (g.2 2) (4 : Int32).toNatClampNeg (60 : Int32).toNatClampNeg (defaultValue .long) (a := x) (by rw [hTh]; exact hx) (4 : Int32).toNatClampNeg
    rw [hF, hTh] at this
    exact this
  have hrow : ∀ j : Nat, j < 4 → F.heap[H.size + 1 + j]? = some (vp_cell (g.2 2) (60, .inr (.inl (fun _ => 0)))) := fun j hj => by
    have := Jvm.Free.Multi.fill_inner (T.setVm vm₁) (g.2 5) (g.2 2) (4 : Int32).toNatClampNeg (60 : Int32).toNatClampNeg (defaultValue .long) (4 : Int32).toNatClampNeg j hj
    rw [hF, hTh] at this
    rw [this]
    congr 1
  have hout : Jvm.Free.Multi.outerC (g.2 5) 4 H.size 4 = vp_cell (g.2 5) (4, .inr (.inr (.inr (.inr (fun i => if i < 4 then some (H.size + 1 + i) else none))))) := by
    rw [vp_cell_q]
    show ((((({ cls := g.2 5, slots := Array.replicate 4 .null, vm := .none } : Cell).setSlot 0 (.ref (H.size + 1 + 0))).setSlot 1 (.ref (H.size + 1 + 1))).setSlot 2 (.ref (H.size + 1 + 2))).setSlot 3 (.ref (H.size + 1 + 3))) = _
    rw [arrV_new, arrV_store, arrV_store, arrV_store, arrV_store]
    refine congrArg (arrV (g.2 5) 4) (funext fun j => ?_)
    rcases (show j = 0 ∨ j = 1 ∨ j = 2 ∨ j = 3 ∨ 4 ≤ j by omega) with rfl | rfl | rfl | rfl | h
    · simp [updV, va_rf]
    · simp [updV, va_rf]
    · simp [updV, va_rf]
    · simp [updV, va_rf]
    · simp [updV, va_rf, show ¬ j < 4 by omega, show j ≠ 0 by omega, show j ≠ 1 by omega, show j ≠ 2 by omega, show j ≠ 3 by omega]
  have f2' : F.heap[H.size]? = some (vp_cell (g.2 5) (4, .inr (.inr (.inr (.inr (fun i => if i < 4 then some (H.size + 1 + i) else none)))))) := f2.trans (congrArg some hout)
  have hz : F.heap.size = H.size + 5 := f1
  have hP0 : va_P g.1 vwCl ws F.heap := hP.kept (fun k9 x hx => hold x.1 ((hP k9 x hx).lt))
  obtain ⟨t, a1, b1⟩ := kk H.size F.heap (hP0.app (fun k x hx => by
    match k, hx with
    | 0, hx => cases hx; exact f2'
    | 1, hx => cases hx; exact hrow 0 (by decide)
    | 2, hx => cases hx; exact hrow 1 (by decide)
    | 3, hx => cases hx; exact hrow 2 (by decide)
    | 4, hx => cases hx; exact hrow 3 (by decide)
    | k + 5, hx => simp at hx)) (dapp hD (fun k x hx => (hP k x hx).lt) (fun k x hx => by
    match k, hx with
    | 0, hx => cases hx; exact Nat.le_refl _
    | 1, hx => cases hx; show H.size ≤ H.size + 1; omega
    | 2, hx => cases hx; show H.size ≤ H.size + 2; omega
    | 3, hx => cases hx; show H.size ≤ H.size + 3; omega
    | 4, hx => cases hx; show H.size ≤ H.size + 4; omega
    | k + 5, hx => simp at hx) ⟨fun i j x y hi hj e => by
      have key : ∀ (k : Nat) (x : Nat × va_E), ([(H.size, .inl (g.2 5, 4, .inr (.inr (.inr (.inr (fun i => if i < 4 then some (H.size + 1 + i) else none)))))), (H.size + 1, .inl (g.2 2, 60, .inr (.inl (fun _ => 0)))), (H.size + 2, .inl (g.2 2, 60, .inr (.inl (fun _ => 0)))), (H.size + 3, .inl (g.2 2, 60, .inr (.inl (fun _ => 0)))), (H.size + 4, .inl (g.2 2, 60, .inr (.inl (fun _ => 0))))] : va_W)[k]? = some x → x.1 = H.size + k := fun k x hx => by
        match k, hx with
        | 0, hx => cases hx; rfl
        | 1, hx => cases hx; rfl
        | 2, hx => cases hx; rfl
        | 3, hx => cases hx; rfl
        | 4, hx => cases hx; rfl
        | k + 5, hx => simp at hx
      have h1 := key i x hi
      have h2 := key j y hj
      omega, fun k x hx => by
      refine hA _ (Nat.le_trans hS.1 ?_)
      match k, hx with
      | 0, hx => cases hx; exact Nat.le_refl _
      | 1, hx => cases hx; show H.size ≤ H.size + 1; omega
      | 2, hx => cases hx; show H.size ≤ H.size + 2; omega
      | 3, hx => cases hx; show H.size ≤ H.size + 3; omega
      | 4, hx => cases hx; show H.size ≤ H.size + 4; omega
      | k + 5, hx => simp at hx⟩) ⟨by rw [hz]; have := hS.1; omega, fun x h1 h2 => (hold x (Nat.lt_of_lt_of_le h1 hS.1)).trans (hS.2.1 x h1 h2), hS.2.2⟩ F rfl X'
  refine ⟨t, step t ?_, b1⟩
  have e : T.heap.size = H.size := by rw [hT]
  rw [e]
  exact a1
/-- Arrays.fill(int[], int) of a cell of the list -/
theorem cfill (E : Ev p s m args c cc own g) {nL : Nat} (hml : c.maxLocals = nL) (hls : ls.size = nL) (hP : va_P g.1 vwCl ws H) (hD : va_D A ws) (hS : va_S A H0 H locs) (hA : ∀ q, H0.size ≤ q → A q) (q0 : Nat) {a n : Nat} {f : Nat → Int32} {v : Int32} (hn : n < 2 ^ 31) (ha : ws[q0]? = some (a, .inl (g.2 0, n, .inl f))) {index : Nat} (hC : CmS yJ7_fill_53178 cJ7_fill_53178 4 none 2) (hq : Cond.methodLink own index yJ7_fill_53178 ∈ lw_g) (hcs : cells ≤ R.cells ∧ slots ≤ R.slots) (hR : 0 + 1 ≤ R.frames ∧ 8 + (4 + 11) + 64 * 0 ≤ R.locals) (hrest : (rest.map fun v => v.category).sum ≤ 8) (hdg : decode cc pc = .ok (.invokestatic index, 3))
    (kk : ∀ (H1 : Heap) (locs1 : List Loc), va_P g.1 vwCl (ws.set q0 (a, .inl (g.2 0, n, .inl (fillF v n f)))) H1 → va_D A (ws.set q0 (a, .inl (g.2 0, n, .inl (fillF v n f)))) → va_S A H0 H1 locs1 → W p l e R s m args below meth c H1 locs1 cells slots Q (F0 m (pc + 3) ls rest)) : W p l e R s m args below meth c H locs cells slots Q (F0 m pc ls (.int v :: .ref a :: rest)) := by
  have hPW : PW g (fun _ => a) 1 (fun _ => .inl (g.2 0, n, .inl f)) H := fun i hi => hP q0 _ ha
  have hDj : Dj (fun _ => a) 1 := fun i j hi hj _ => by omega
  have hM := uFillI l g (fun _ => a) 1 hDj (fun _ => .inl (g.2 0, n, .inl f)) 0 (by decide) n hn f v rfl
  have hAa : ∀ q, FA (fun _ => a) 1 q → A q := fun q h => by
    obtain ⟨i, -, rfl⟩ := h
    exact hD.2 q0 _ ha
  refine va_callv (va_runS (As := [.ref a, .int v]) (rest := rest) ⟨E.1, E.2.1, hml, E.2.2.1, E.2.2.2.1⟩ hM (cwT E.2.2.2.1 hC hq hR) (xpreS hPW E.2.2.2.2) rfl rfl hls rfl (lv_room hrest) hdg hcs) hS (fun q _ h => hAa q h) hAa (fun u t H1 locs1 ht hvm hp hB hz hk1 hS1 => ?_)
  refine kk H1 locs1 ?_ ?_ hS1
  · intro k x hx
    by_cases hk : k = q0
    · subst hk
      rw [List.getElem?_set] at hx
      rw [if_pos rfl, if_pos (List.getElem?_eq_some_iff.mp ha).1] at hx
      cases hx
      have h0 : va_at g.1 vwCl (a, u 0) t.heap := hB 0 (by decide)
      rw [hp, va_up_self, ht] at h0
      exact h0
    · rw [List.getElem?_set, if_neg (fun h => hk h.symm)] at hx
      refine (hP k x hx).kept (hk1 x.1 ((hP k x hx).lt) (fun h => ?_))
      obtain ⟨i, -, hi⟩ := h
      exact hk (hD.1 k q0 x _ hx ha hi.symm)
  · exact hD.set ha
theorem cpre {wc : va_W} {A1 : Nat → Prop} {av : List Value} (hNW : NW s) (hK : KK g s) (hP : va_P g.1 vwCl wc H) (hD : va_D A1 wc) : PreS s H (CPre g H.size wc av) av :=
  ⟨CPre.blind, fun U hU hW => ⟨rfl, by rw [hU], by rw [hU]; exact hP, va_K.moved hW.alike hK, hD.weaken (fun _ _ _ _ => trivial), NW.warm hW hNW⟩⟩
theorem pick_P {ws wc : va_W} (hP : va_P g.1 vwCl ws H) (isC : List Nat) (hC : isC.map (fun i => ws[i]?) = wc.map some) : va_P g.1 vwCl wc H := fun k q hq => by
  have h1 : (wc.map some)[k]? = some (some q) := by rw [List.getElem?_map, hq]; rfl
  rw [← hC, List.getElem?_map] at h1
  cases hi : isC[k]? with
  | none => rw [hi] at h1; cases h1
  | some i =>
    rw [hi] at h1
    exact hP i q (Option.some.inj h1)
/-- a constructor called: its world the last cell, behind it that cell and those it made -/
theorem ccI {y : MethodName} {bytes : ByteArray} {maxL n nL index mc ms : Nat} {rm : Room} {As : List Value} {b : Nat} {e0 : va_E} {wr : va_W} {W1 : (Nat → Nat) → va_W} (E : Ev p s m args c cc own g) (hNW : NW s) (hml : c.maxLocals = nL) (hls : ls.size = nL) (hP : va_P g.1 vwCl (wr ++ [(b, e0)]) H) (hD : va_D A (wr ++ [(b, e0)])) (hS : va_S A H0 H locs) (hA : ∀ q, H0.size ≤ q → A q)
    (hM : Met l y (wG (.code y bytes maxL none)) rm (CPre g H.size [(b, e0)] (.ref b :: As)) (va_Qv (fun _ : Nat → Nat => True) (fun u t => va_P g.1 vwCl (W1 u) t.heap ∧ va_D (va_A [(b, e0)] H.size) (W1 u)) (va_A [(b, e0)] H.size)) mc ms (va_A [(b, e0)] H.size))
    (hq : Cond.methodLink own index y ∈ lw_g) (hqi : Cond.instanceMethod y ∈ lw_g) (hqc : Cond.code y bytes maxL none ∈ lw_g) (hini : Cond.initialized y.cls ∈ lw_g) (hyn : y.name = "<init>") (hrc : rm.cells = mc) (hrs : rm.slots = ms) (hd : y.cls ≠ "java/lang/invoke/MethodHandle" ∧ y.cls ≠ "java/lang/invoke/VarHandle" ∧ (parseMethodDescriptor y.desc).map (fun d => d.parameters.length) = some n) (hn : As.length = n) (hR : rm.frames + 1 ≤ R.frames ∧ 8 + (maxL + 11) + rm.locals ≤ R.locals) (hf : cells + mc ≤ R.cells ∧ slots + ms ≤ R.slots) (hrest : (rest.map fun v => v.category).sum ≤ 8) {st : List Value} (hst : st = As.reverse ++ .ref b :: rest) (hdg : decode cc pc = .ok (.invokespecial index, 3))
    (kk : ∀ (u : Nat → Nat) (H1 : Heap) (locs1 : List Loc), va_P g.1 vwCl (wr ++ W1 u) H1 → va_D A (wr ++ W1 u) → va_S A H0 H1 locs1 → (∀ q : Nat, q < H.size → ¬ va_A [(b, e0)] H.size q → H1[q]? = H[q]?) → W p l e R s m args below meth c H1 locs1 (cells + mc) (slots + ms) Q (F0 m (pc + 3) ls rest)) : W p l e R s m args below meth c H locs cells slots Q (F0 m pc ls st) := by
  have hCp : [wr.length].map (fun i => (wr ++ [(b, e0)])[i]?) = [(b, e0)].map some := by simp
  have hRp : (List.range wr.length).map (fun i => (wr ++ [(b, e0)])[i]?) = wr.map some := by
    apply List.ext_getElem?
    intro i
    rw [List.getElem?_map, List.getElem?_map]
    by_cases hi : i < wr.length
    · rw [List.getElem?_range hi, Option.map_some, List.getElem?_append_left hi]
      rw [List.getElem?_eq_getElem hi]
      rfl
    · rw [List.getElem?_eq_none (by simp; omega), List.getElem?_eq_none (by omega)]
      rfl
  have hPc := pick_P hP _ hCp
  have hFc := va_free (wc := [(b, e0)]) hD hS hA _ hCp
  have hDc : va_D A [(b, e0)] := ⟨fun i j p q hi hj _ => by
      have h1 : i < 1 := (List.getElem?_eq_some_iff.mp hi).1
      have h2 : j < 1 := (List.getElem?_eq_some_iff.mp hj).1
      omega, fun k q hk => by
      have h1 : k < 1 := (List.getElem?_eq_some_iff.mp hk).1
      have h2 : k = 0 := by omega
      subst h2
      cases hk
      exact hD.2 wr.length _ (by simp)⟩
  refine va_callv (va_runI (As := As) (rest := rest) ⟨E.1, E.2.1, hml, E.2.2.1, E.2.2.2.1⟩ hM (cwI n E.2.2.2.1 (gT hqc) rfl hrc hrs (E.2.2.2.1 _ hini) (E.2.2.2.1 _ hq) (E.2.2.2.1 _ hqi) hyn hd hR) (cpre hNW E.2.2.2.2 hPc hDc) rfl hn hls hst (lv_room hrest) hdg hf) hS (fun q _ h => hFc q h) hFc (fun u t H1 locs1 ht hvm hp hB hz hk1 hS1 => ?_)
  obtain ⟨hP1, hD1⟩ := hB
  rw [ht] at hP1
  obtain ⟨hP2, hD2⟩ := va_join (wr := wr) (w1 := W1 u) hP hD [wr.length] (List.range wr.length) hCp hRp (va_nd_range _) (fun i hi => by simp at hi ⊢; omega) hk1 hFc hP1 hD1
  exact kk u H1 locs1 hP2 hD2 hS1 hk1
/-- the same, of a nest mate's own constructor -/
theorem ccN {y : MethodName} {host : String} {bytes : ByteArray} {maxL n nL index mc ms : Nat} {rm : Room} {As : List Value} {b : Nat} {e0 : va_E} {wr : va_W} {W1 : (Nat → Nat) → va_W} (E : Ev p s m args c cc own g) (hNW : NW s) (hml : c.maxLocals = nL) (hls : ls.size = nL) (hP : va_P g.1 vwCl (wr ++ [(b, e0)]) H) (hD : va_D A (wr ++ [(b, e0)])) (hS : va_S A H0 H locs) (hA : ∀ q, H0.size ≤ q → A q)
    (hM : Met l y (wG (.code y bytes maxL none)) rm (CPre g H.size [(b, e0)] (.ref b :: As)) (va_Qv (fun _ : Nat → Nat => True) (fun u t => va_P g.1 vwCl (W1 u) t.heap ∧ va_D (va_A [(b, e0)] H.size) (W1 u)) (va_A [(b, e0)] H.size)) mc ms (va_A [(b, e0)] H.size))
    (hq : va_Nw (.methodLinkNest own index y host) s) (hqi : Cond.instanceMethod y ∈ lw_g) (hqc : Cond.code y bytes maxL none ∈ lw_g) (hini : Cond.initialized y.cls ∈ lw_g) (hyn : y.name = "<init>") (hrc : rm.cells = mc) (hrs : rm.slots = ms) (hd : y.cls ≠ "java/lang/invoke/MethodHandle" ∧ y.cls ≠ "java/lang/invoke/VarHandle" ∧ (parseMethodDescriptor y.desc).map (fun d => d.parameters.length) = some n) (hn : As.length = n) (hR : rm.frames + 1 ≤ R.frames ∧ 8 + (maxL + 11) + rm.locals ≤ R.locals) (hf : cells + mc ≤ R.cells ∧ slots + ms ≤ R.slots) (hrest : (rest.map fun v => v.category).sum ≤ 8) {st : List Value} (hst : st = As.reverse ++ .ref b :: rest) (hdg : decode cc pc = .ok (.invokespecial index, 3))
    (kk : ∀ (u : Nat → Nat) (H1 : Heap) (locs1 : List Loc), va_P g.1 vwCl (wr ++ W1 u) H1 → va_D A (wr ++ W1 u) → va_S A H0 H1 locs1 → (∀ q : Nat, q < H.size → ¬ va_A [(b, e0)] H.size q → H1[q]? = H[q]?) → W p l e R s m args below meth c H1 locs1 (cells + mc) (slots + ms) Q (F0 m (pc + 3) ls rest)) : W p l e R s m args below meth c H locs cells slots Q (F0 m pc ls st) := by
  have hCp : [wr.length].map (fun i => (wr ++ [(b, e0)])[i]?) = [(b, e0)].map some := by simp
  have hRp : (List.range wr.length).map (fun i => (wr ++ [(b, e0)])[i]?) = wr.map some := by
    apply List.ext_getElem?
    intro i
    rw [List.getElem?_map, List.getElem?_map]
    by_cases hi : i < wr.length
    · rw [List.getElem?_range hi, Option.map_some, List.getElem?_append_left hi]
      rw [List.getElem?_eq_getElem hi]
      rfl
    · rw [List.getElem?_eq_none (by simp; omega), List.getElem?_eq_none (by omega)]
      rfl
  have hPc := pick_P hP _ hCp
  have hFc := va_free (wc := [(b, e0)]) hD hS hA _ hCp
  have hDc : va_D A [(b, e0)] := ⟨fun i j p q hi hj _ => by
      have h1 : i < 1 := (List.getElem?_eq_some_iff.mp hi).1
      have h2 : j < 1 := (List.getElem?_eq_some_iff.mp hj).1
      omega, fun k q hk => by
      have h1 : k < 1 := (List.getElem?_eq_some_iff.mp hk).1
      have h2 : k = 0 := by omega
      subst h2
      cases hk
      exact hD.2 wr.length _ (by simp)⟩
  refine va_callv (va_runIN (As := As) (rest := rest) ⟨E.1, E.2.1, hml, E.2.2.1, E.2.2.2.1⟩ hM ⟨va_cnB n E.2.2.2.1 (gT hqc) rfl hrc hrs hq (E.2.2.2.1 _ hini) hd hR, hyn, E.2.2.2.1 _ hqi⟩ (cpre hNW E.2.2.2.2 hPc hDc) rfl hn hls hst (lv_room hrest) hdg hf) hS (fun q _ h => hFc q h) hFc (fun u t H1 locs1 ht hvm hp hB hz hk1 hS1 => ?_)
  obtain ⟨hP1, hD1⟩ := hB
  rw [ht] at hP1
  obtain ⟨hP2, hD2⟩ := va_join (wr := wr) (w1 := W1 u) hP hD [wr.length] (List.range wr.length) hCp hRp (va_nd_range _) (fun i hi => by simp at hi ⊢; omega) hk1 hFc hP1 hD1
  exact kk u H1 locs1 hP2 hD2 hS1 hk1
end CR
theorem cmet {l : Launch} {g : GG} {sz : Nat} {ws : va_W} {y : MethodName} {maxL : Nat} {rm : Room} {av : List Value} {Qc : Array Value → State → Outcome → State → Prop} {mc ms : Nat} (cc : ByteArray) (own : String) (hy : plainName y.cls = true) (hown : y.cls = own) (hin : y.name = "<init>") (hlen : (lg_sl av).length ≤ maxL)
    (body : ∀ (p : Program) (e : Env) (s : State) (m : MethodId) (below : List Frame) (meth : Method) (c : Code), Ev p s m av.toArray c cc own g → meth.sig.returnType = none → meth.locks = false → meth.name = "<init>" → c.maxLocals = maxL → NW s → s.heap.size = sz → va_P g.1 vwCl ws s.heap → va_D (va_A ws sz) ws → ∀ ls : Array Slot, lv_has ls maxL (lv_args 0 av) →
      W p l e rm s m av.toArray below meth c s.heap [] 0 0 (MQ below Qc av.toArray s mc ms (va_A ws sz)) (F0 m 0 ls [])) : Met l y (wG (.code y cc maxL none)) rm (CPre g sz ws av) Qc mc ms (va_A ws sz) := by
  refine Met.ofW (cc := cc) (maxL := maxL) (ret := none) hy rfl ?_
  intro p e s m args below meth c s₁ B hml hv
  obtain ⟨rfl, hsz, hP, hK, hD0, hNW⟩ := hv
  have hts := atoms_spec (ws := wG (.code y cc maxL none)) B.pre
  have hown2 : s.vm.findClass y.cls = some m.cls := findClass_of_methodNamed B.named
  have hnm : meth.name = y.name := (name_of_methodNamed B.named B.method).1
  rw [hown] at hown2
  have hl := lv_entry av (n := maxL) hlen
  rw [lg_entry_eq]
  exact body p e s m below meth c ⟨B.exec, B.bytes, hown2, fun w h => hts w (List.mem_cons_of_mem _ h), hK⟩ B.returns B.notSynchronized (hnm.trans hin) hml hNW hsz hP hD0.self _ hl
