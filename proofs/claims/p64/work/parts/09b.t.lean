abbrev TT : Type := (Nat → Nat) × (Nat → Nat) × Nat
def lnT : List Nat := [7, 5, 5, 4, 6, 5, 5, 5, 5, 3, 4, 4, 5, 2, 4, 2, 2]
def byT : List (List Int32) := [[99, 117, 114, 114, 101, 110, 116], [98, 101, 97, 99, 104], [116, 104, 105, 110, 103], [114, 117, 108, 101], [115, 105, 116, 116, 101, 114], [115, 104, 111, 114, 101], [99, 101, 108, 108, 115], [102, 108, 111, 111, 100], [115, 108, 97, 99, 107], [101, 98, 98], [111, 100, 100, 115], [98, 97, 99, 107], [119, 111, 114, 116, 104], [97, 116], [102, 114, 111, 109], [116, 111], [111, 110]]
def ixT : List Nat := [99, 104, 109, 114, 119, 124, 130, 137, 139, 141, 143, 167, 175, 180, 185, 199, 201]
def txT : List String := ["current", "beach", "thing", "rule", "sitter", "shore", "cells", "flood", "slack", "ebb", "odds", "back", "worth", "at", "from", "to", "on"]
def TW (tt : TT) (A : Nat → Prop) (U : State) (H : Heap) : Prop := vk_S 17 lnT byT tt.1 tt.2.1 A U H ∧ va_Z "java/lang/String" "COMPACT_STRINGS" "Z" (.int 1) A U H ∧ va_Zq "jdk/internal/util/Preconditions" "SIOOBE_FORMATTER" "Ljava/util/function/BiFunction;" A U H ∧ ∀ i, i < 17 → vk_R "EbbWreck$Reader" (ixT.getD i 0) (txT.getD i "") (tt.1 i) U
theorem TW.go {tt : TT} {A : Nat → Prop} {s U : State} {H : Heap} {locs : List Loc} (h : TW tt A s s.heap) (hS : va_S A s.heap H locs) (hU : U.heap = H) (hW : s.WarmedH U.vm) : TW tt A U U.heap := by
  rw [hU]
  exact ⟨(h.1.kept hS.2.1).moved hW.alike, (h.2.1.kept hS.2.1).moved hW.alike, (h.2.2.1.kept hS.2.1).moved hW.alike, fun i hi => (h.2.2.2 i hi).warm hW⟩
theorem TW.narrow {tt : TT} {A B : Nat → Prop} {U : State} {H : Heap} (h : TW tt A U H) (hAB : ∀ q, B q → A q) : TW tt B U H := ⟨h.1.narrow hAB, h.2.1.narrow hAB, h.2.2.1.narrow hAB, h.2.2.2⟩
def XPreT (g : GG) (tt : TT) (ad : Nat → Nat) (N : Nat) (S : SS) (av : List Value) : Array Value → State → Prop := fun v U => XPre g ad N S av v U ∧ TW tt (FA ad N) U U.heap
theorem XPreT.blind {g : GG} {tt : TT} {ad : Nat → Nat} {N : Nat} {S : SS} {av : List Value} : FrameBlind (XPreT g tt ad N S av) := fun a U gf mk q => by
  obtain ⟨q0, q1, q2, q3, q4⟩ := q
  exact ⟨XPre.blind a U gf mk q0, vk_S.moved (u := U) (U := U.calling gf mk a) (Vm.Alike.refl U.vm) q1, va_Z.moved (u := U) (U := U.calling gf mk a) (Vm.Alike.refl U.vm) q2, va_Zq.moved (u := U) (U := U.calling gf mk a) (Vm.Alike.refl U.vm) q3, fun i hi => vk_R.same (u := U) rfl (q4 i hi)⟩
theorem xmetT {l : Launch} {g : GG} {tt : TT} {ad : Nat → Nat} {N : Nat} {S : SS} {y : MethodName} {maxL : Nat} {ret : Option FieldType} {rm : Room} {av : List Value} {Qc : Array Value → State → Outcome → State → Prop} {mc ms : Nat} {free : Addr → Prop} (cc : ByteArray) (own : String) (hy : plainName y.cls = true) (hown : y.cls = own) (hlen : (lg_sl av).length ≤ maxL)
    (body : ∀ (p : Program) (e : Env) (s : State) (m : MethodId) (below : List Frame) (meth : Method) (c : Code), Ev p s m av.toArray c cc own g → TW tt (FA ad N) s s.heap → meth.sig.returnType = ret → meth.locks = false → c.maxLocals = maxL → Hp g ad N S (FA ad N) s.heap s.heap [] → ∀ ls : Array Slot, lv_has ls maxL (lv_args 0 av) →
      W p l e rm s m av.toArray below meth c s.heap [] 0 0 (MQ below Qc av.toArray s mc ms free) (F0 m 0 ls [])) : Met l y (wG (.code y cc maxL ret)) rm (XPreT g tt ad N S av) Qc mc ms free := by
  refine Met.ofW (cc := cc) (maxL := maxL) (ret := ret) hy rfl ?_
  intro p e s m args below meth c s₁ B hml hv
  obtain ⟨⟨rfl, hP, hK⟩, hT⟩ := hv
  have hts := atoms_spec (ws := wG (.code y cc maxL ret)) B.pre
  have hown2 : s.vm.findClass y.cls = some m.cls := findClass_of_methodNamed B.named
  rw [hown] at hown2
  have hl := lv_entry av (n := maxL) hlen
  rw [lg_entry_eq]
  exact body p e s m below meth c ⟨B.exec, B.bytes, hown2, fun w h => hts w (List.mem_cons_of_mem _ h), hK⟩ hT B.returns B.notSynchronized hml ⟨hP, va_S.rf⟩ _ hl
section XT
variable {p : Program} {l : Launch} {e : Env} {R : Room} {s : State} {m : MethodId} {args : Array Value} {below : List Frame} {meth : Method} {c : Code} {H : Heap} {locs : List Loc} {cells slots : Nat} {Q : State → Prop}
variable {cc : ByteArray} {pc : Nat} {ls : Array Slot} {rest : List Value} {own : String} {g : GG} {tt : TT} {ad : Nat → Nat} {N : Nat} {S : SS}
theorem xpreST {av : List Value} (hQ : Hp g ad N S (FA ad N) s.heap H locs) (hK : KK g s) (hT : TW tt (FA ad N) s s.heap) : PreS s H (XPreT g tt ad N S av) av :=
  ⟨XPreT.blind, fun U hU hW => ⟨⟨rfl, by rw [hU]; exact hQ.1, va_K.moved hW.alike hK⟩, hT.go hQ.2 hU hW⟩⟩
theorem xpreVT {As : List Value} (hQ : Hp g ad N S (FA ad N) s.heap H locs) (hK : KK g s) (hT : TW tt (FA ad N) s s.heap) (k : Nat) (hk : k < N) {ci : Nat} {fs : List Value} (hS : S k = .inr (ci, fs)) {q : vw_C} (hc : vwCl[ci]? = some q) : PreV s H q.1 (ad k) (XPreT g tt ad N S (.ref (ad k) :: As)) As :=
  ⟨XPreT.blind, va_recv (ws := wl ad N S) (q0 := k) hK hQ.1.toP hc (by rw [wl_get hk, hS]), fun U hU hW => ⟨⟨rfl, by rw [hU]; exact hQ.1, va_K.moved hW.alike hK⟩, hT.go hQ.2 hU hW⟩⟩
theorem xpreTT {As : List Value} (hQ : Hp g ad N S (FA ad N) s.heap H locs) (hK : KK g s) (hT : TW tt (FA ad N) s s.heap) (i : Nat) (hi : i < 17) : PreV s H "java/lang/String" (tt.1 i) (XPreT g tt ad N S (.ref (tt.1 i) :: As)) As :=
  ⟨XPreT.blind, vk_recv hT.1 hi hQ.2, fun U hU hW => ⟨⟨rfl, by rw [hU]; exact hQ.1, va_K.moved hW.alike hK⟩, hT.go hQ.2 hU hW⟩⟩
theorem xcViT {y : MethodName} {bytes : ByteArray} {maxL n nL index d : Nat} {ret : Option FieldType} {post : Int32 → SS → Prop} {As : List Value} (E : Ev p s m args c cc own g) (hs : Sp ad N (FA ad N)) (hQ : Hp g ad N S (FA ad N) s.heap H locs) (hml : c.maxLocals = nL) (hls : ls.size = nL) (hT : TW tt (FA ad N) s s.heap) (k : Nat)
    (hM : Met l y (wG (.code y bytes maxL ret)) (Rm d) (XPreT g tt ad N S (.ref (ad k) :: As)) (va_Qi post (QB g ad N) (FA ad N)) 0 0 (FA ad N)) {q : vw_C} (hC : CmV q.1 y bytes maxL ret n) (hq : Cond.methodLink own index y ∈ lw_g) (hk : k < N) {ci : Nat} {fs : List Value} (hS : S k = .inr (ci, fs)) (hc : vwCl[ci]? = some q) (hn : As.length = n) (hcs : cells ≤ R.cells ∧ slots ≤ R.slots) (hR : d + 1 ≤ R.frames ∧ 8 + (maxL + 11) + 64 * d ≤ R.locals) (hrest : (rest.map fun v => v.category).sum ≤ 8) {st : List Value} (hst : st = As.reverse ++ .ref (ad k) :: rest) (hdg : decode cc pc = .ok (.invokevirtual index, 3))
    (kk : ∀ (r : Int32) (S' : SS) (H1 : Heap) (locs1 : List Loc), post r S' → Hp g ad N S' (FA ad N) s.heap H1 locs1 → (∀ q : Nat, q < H.size → ¬ FA ad N q → H1[q]? = H[q]?) → W p l e R s m args below meth c H1 locs1 cells slots Q (F0 m (pc + 3) ls (.int r :: rest))) : W p l e R s m args below meth c H locs cells slots Q (F0 m pc ls st) := by
  refine va_calli (va_runV (As := As) (rest := rest) ⟨E.1, E.2.1, hml, E.2.2.1, E.2.2.2.1⟩ hM (cwG E.2.2.2.1 hC hq hR) (xpreVT hQ E.2.2.2.2 hT k hk hS hc) rfl hn hls hst (lv_room hrest) hdg hcs) hQ.2 (fun q _ h => fa_in hs q h) (fa_in hs) (fun r u t H1 locs1 ht hvm hp hB hz hk1 hS1 => ?_)
  exact kk r u H1 locs1 hp ⟨by rw [← ht]; exact hB, hS1⟩ hk1
theorem xcVvT {y : MethodName} {bytes : ByteArray} {maxL n nL index d : Nat} {ret : Option FieldType} {post : SS → Prop} {As : List Value} (E : Ev p s m args c cc own g) (hs : Sp ad N (FA ad N)) (hQ : Hp g ad N S (FA ad N) s.heap H locs) (hml : c.maxLocals = nL) (hls : ls.size = nL) (hT : TW tt (FA ad N) s s.heap) (k : Nat)
    (hM : Met l y (wG (.code y bytes maxL ret)) (Rm d) (XPreT g tt ad N S (.ref (ad k) :: As)) (va_Qv post (QB g ad N) (FA ad N)) 0 0 (FA ad N)) {q : vw_C} (hC : CmV q.1 y bytes maxL ret n) (hq : Cond.methodLink own index y ∈ lw_g) (hk : k < N) {ci : Nat} {fs : List Value} (hS : S k = .inr (ci, fs)) (hc : vwCl[ci]? = some q) (hn : As.length = n) (hcs : cells ≤ R.cells ∧ slots ≤ R.slots) (hR : d + 1 ≤ R.frames ∧ 8 + (maxL + 11) + 64 * d ≤ R.locals) (hrest : (rest.map fun v => v.category).sum ≤ 8) {st : List Value} (hst : st = As.reverse ++ .ref (ad k) :: rest) (hdg : decode cc pc = .ok (.invokevirtual index, 3))
    (kk : ∀ (S' : SS) (H1 : Heap) (locs1 : List Loc), post S' → Hp g ad N S' (FA ad N) s.heap H1 locs1 → (∀ q : Nat, q < H.size → ¬ FA ad N q → H1[q]? = H[q]?) → W p l e R s m args below meth c H1 locs1 cells slots Q (F0 m (pc + 3) ls rest)) : W p l e R s m args below meth c H locs cells slots Q (F0 m pc ls st) := by
  refine va_callv (va_runV (As := As) (rest := rest) ⟨E.1, E.2.1, hml, E.2.2.1, E.2.2.2.1⟩ hM (cwG E.2.2.2.1 hC hq hR) (xpreVT hQ E.2.2.2.2 hT k hk hS hc) rfl hn hls hst (lv_room hrest) hdg hcs) hQ.2 (fun q _ h => fa_in hs q h) (fa_in hs) (fun u t H1 locs1 ht hvm hp hB hz hk1 hS1 => ?_)
  exact kk u H1 locs1 hp ⟨by rw [← ht]; exact hB, hS1⟩ hk1
/-- a literal's own method -/
theorem xcTi {y : MethodName} {bytes : ByteArray} {maxL n nL index d : Nat} {ret : Option FieldType} {post : Int32 → SS → Prop} {As : List Value} (E : Ev p s m args c cc own g) (hs : Sp ad N (FA ad N)) (hQ : Hp g ad N S (FA ad N) s.heap H locs) (hml : c.maxLocals = nL) (hls : ls.size = nL) (hT : TW tt (FA ad N) s s.heap) (i : Nat)
    (hM : Met l y (wG (.code y bytes maxL ret)) (Rm d) (XPreT g tt ad N S (.ref (tt.1 i) :: As)) (va_Qi post (QB g ad N) (FA ad N)) 0 0 (FA ad N)) (hC : CmV "java/lang/String" y bytes maxL ret n) (hq : Cond.methodLink own index y ∈ lw_g) (hi : i < 17) (hn : As.length = n) (hcs : cells ≤ R.cells ∧ slots ≤ R.slots) (hR : d + 1 ≤ R.frames ∧ 8 + (maxL + 11) + 64 * d ≤ R.locals) (hrest : (rest.map fun v => v.category).sum ≤ 8) {st : List Value} (hst : st = As.reverse ++ .ref (tt.1 i) :: rest) (hdg : decode cc pc = .ok (.invokevirtual index, 3))
    (kk : ∀ (r : Int32) (S' : SS) (H1 : Heap) (locs1 : List Loc), post r S' → Hp g ad N S' (FA ad N) s.heap H1 locs1 → W p l e R s m args below meth c H1 locs1 cells slots Q (F0 m (pc + 3) ls (.int r :: rest))) : W p l e R s m args below meth c H locs cells slots Q (F0 m pc ls st) := by
  refine va_calli (va_runV (As := As) (rest := rest) ⟨E.1, E.2.1, hml, E.2.2.1, E.2.2.2.1⟩ hM (cwG E.2.2.2.1 hC hq hR) (xpreTT hQ E.2.2.2.2 hT i hi) rfl hn hls hst (lv_room hrest) hdg hcs) hQ.2 (fun q _ h => fa_in hs q h) (fa_in hs) (fun r u t H1 locs1 ht hvm hp hB hz hk1 hS1 => ?_)
  exact kk r u H1 locs1 hp ⟨by rw [← ht]; exact hB, hS1⟩
theorem xcSiT {y : MethodName} {bytes : ByteArray} {maxL n nL index d : Nat} {ret : Option FieldType} {post : Int32 → SS → Prop} {As : List Value} (E : Ev p s m args c cc own g) (hs : Sp ad N (FA ad N)) (hQ : Hp g ad N S (FA ad N) s.heap H locs) (hml : c.maxLocals = nL) (hls : ls.size = nL) (hT : TW tt (FA ad N) s s.heap)
    (hM : Met l y (wG (.code y bytes maxL ret)) (Rm d) (XPreT g tt ad N S As) (va_Qi post (QB g ad N) (FA ad N)) 0 0 (FA ad N)) (hC : CmS y bytes maxL ret n) (hq : Cond.methodLink own index y ∈ lw_g) (hn : As.length = n) (hcs : cells ≤ R.cells ∧ slots ≤ R.slots) (hR : d + 1 ≤ R.frames ∧ 8 + (maxL + 11) + 64 * d ≤ R.locals) (hrest : (rest.map fun v => v.category).sum ≤ 8) {st : List Value} (hst : st = As.reverse ++ rest) (hdg : decode cc pc = .ok (.invokestatic index, 3))
    (kk : ∀ (r : Int32) (S' : SS) (H1 : Heap) (locs1 : List Loc), post r S' → Hp g ad N S' (FA ad N) s.heap H1 locs1 → W p l e R s m args below meth c H1 locs1 cells slots Q (F0 m (pc + 3) ls (.int r :: rest))) : W p l e R s m args below meth c H locs cells slots Q (F0 m pc ls st) := by
  refine va_calli (va_runS (As := As) (rest := rest) ⟨E.1, E.2.1, hml, E.2.2.1, E.2.2.2.1⟩ hM (cwT E.2.2.2.1 hC hq hR) (xpreST hQ E.2.2.2.2 hT) rfl hn hls hst (lv_room hrest) hdg hcs) hQ.2 (fun q _ h => fa_in hs q h) (fa_in hs) (fun r u t H1 locs1 ht hvm hp hB hz hk1 hS1 => ?_)
  exact kk r u H1 locs1 hp ⟨by rw [← ht]; exact hB, hS1⟩
theorem xcSvT {y : MethodName} {bytes : ByteArray} {maxL n nL index d : Nat} {ret : Option FieldType} {post : SS → Prop} {As : List Value} (E : Ev p s m args c cc own g) (hs : Sp ad N (FA ad N)) (hQ : Hp g ad N S (FA ad N) s.heap H locs) (hml : c.maxLocals = nL) (hls : ls.size = nL) (hT : TW tt (FA ad N) s s.heap)
    (hM : Met l y (wG (.code y bytes maxL ret)) (Rm d) (XPreT g tt ad N S As) (va_Qv post (QB g ad N) (FA ad N)) 0 0 (FA ad N)) (hC : CmS y bytes maxL ret n) (hq : Cond.methodLink own index y ∈ lw_g) (hn : As.length = n) (hcs : cells ≤ R.cells ∧ slots ≤ R.slots) (hR : d + 1 ≤ R.frames ∧ 8 + (maxL + 11) + 64 * d ≤ R.locals) (hrest : (rest.map fun v => v.category).sum ≤ 8) {st : List Value} (hst : st = As.reverse ++ rest) (hdg : decode cc pc = .ok (.invokestatic index, 3))
    (kk : ∀ (S' : SS) (H1 : Heap) (locs1 : List Loc), post S' → Hp g ad N S' (FA ad N) s.heap H1 locs1 → W p l e R s m args below meth c H1 locs1 cells slots Q (F0 m (pc + 3) ls rest)) : W p l e R s m args below meth c H locs cells slots Q (F0 m pc ls st) := by
  refine va_callv (va_runS (As := As) (rest := rest) ⟨E.1, E.2.1, hml, E.2.2.1, E.2.2.2.1⟩ hM (cwT E.2.2.2.1 hC hq hR) (xpreST hQ E.2.2.2.2 hT) rfl hn hls hst (lv_room hrest) hdg hcs) hQ.2 (fun q _ h => fa_in hs q h) (fa_in hs) (fun u t H1 locs1 ht hvm hp hB hz hk1 hS1 => ?_)
  exact kk u H1 locs1 hp ⟨by rw [← ht]; exact hB, hS1⟩
theorem xrt {post : Int32 → SS → Prop} {v : Int32} {ty : FieldType} (E : Ev p s m args c cc own g) (hr : meth.sig.returnType = some ty) (hlk : meth.locks = false) (hQ : Hp g ad N S (FA ad N) s.heap H locs) (hn : narrow ty (.int v) = .int v) (hp : post v S) (hdg : decode cc pc = .ok (.ireturn, 1)) :
    W p l e R s m args below meth c H locs cells slots (MQ below (va_Qi post (QB g ad N) (FA ad N)) args s cells slots (FA ad N)) (F0 m pc ls [.int v]) :=
  W.zret E.1 E.2.1 hr hn (fun t ht hW => ⟨⟨v, S, rfl, hp, by show PW g ad N S t.heap; rw [ht]; exact hQ.1⟩, hQ.2.F ht⟩) hQ.2.2.2 hdg hlk
end XT
theorem c_nar (b : Int32) : narrow .char (.int ((b &&& 255).toUInt32 % 65536).toInt32) = .int ((b &&& 255).toUInt32 % 65536).toInt32 := by rw [sc_c2]; exact sc_nar b
theorem lnT_all : ∀ i, i < 17 → lnT.getD i 0 ≤ 7 ∧ 1 ≤ lnT.getD i 0 := by decide +kernel

set_option maxHeartbeats 4000000 in
set_option maxRecDepth 100000 in
theorem uCoder (l : Launch) (g : GG) (tt : TT) (ad : Nat → Nat) (N : Nat) (hD : Dj ad N) (S : SS) (i : Nat) (hi : i < 17) : Met l yJ0_coder_7d493 (wG (.code yJ0_coder_7d493 cJ0_coder_7d493 1 (some .byte))) (Rm 0) (XPreT g tt ad N S [.ref (tt.1 i)]) (va_Qi (fun r S' => S = S' ∧ r = 0) (QB g ad N) (FA ad N)) 0 0 (FA ad N) := by
  refine xmetT cJ0_coder_7d493 "java/lang/String" (by decide) rfl (Nat.le_of_ble_eq_true rfl) (fun p e s m below meth c E hT hr hlk hml hQ ls hl => ?_)
  have hx := E.1
  have hb := E.2.1
  have hs : Sp ad N (FA ad N) := Sp.fa hD
  have hl : lv_has ls 1 [(0, .ref (tt.1 i))] := hl
  refine va_gets hx hb hT.2.1 hQ.2 E.2.2.1 (E.2.2.2.1 _ q639) (fun _ h => h) dJ0_coder_7d493_0 ?_
  refine lv_if_eq (tgt := 13) hx hb dJ0_coder_7d493_3 (by decide) (fun h => absurd h (by decide)) (fun _ => ?_)
  refine lv_aload_n hx hb dJ0_coder_7d493_6 rfl (lv_at hl 0 rfl) ?_
  refine vk_getf hx hb (hT.1.1 i hi).2.1 hQ.2 E.2.2.1 (E.2.2.2.1 _ q2160) (fun _ h => h) dJ0_coder_7d493_7 ?_
  refine lv_goto (tgt := 14) hx hb dJ0_coder_7d493_10 (by decide) ?_
  exact xrt E hr hlk hQ rfl ⟨rfl, rfl⟩ dJ0_coder_7d493_14
set_option maxHeartbeats 4000000 in
set_option maxRecDepth 100000 in
theorem uLatin (l : Launch) (g : GG) (tt : TT) (ad : Nat → Nat) (N : Nat) (hD : Dj ad N) (S : SS) (i : Nat) (hi : i < 17) : Met l yJ0_isLatin1_aae02 (wG (.code yJ0_isLatin1_aae02 cJ0_isLatin1_aae02 1 (some .boolean))) (Rm 0) (XPreT g tt ad N S [.ref (tt.1 i)]) (va_Qi (fun r S' => S = S' ∧ r = 1) (QB g ad N) (FA ad N)) 0 0 (FA ad N) := by
  refine xmetT cJ0_isLatin1_aae02 "java/lang/String" (by decide) rfl (Nat.le_of_ble_eq_true rfl) (fun p e s m below meth c E hT hr hlk hml hQ ls hl => ?_)
  have hx := E.1
  have hb := E.2.1
  have hs : Sp ad N (FA ad N) := Sp.fa hD
  have hl : lv_has ls 1 [(0, .ref (tt.1 i))] := hl
  refine va_gets hx hb hT.2.1 hQ.2 E.2.2.1 (E.2.2.2.1 _ q639) (fun _ h => h) dJ0_isLatin1_aae02_0 ?_
  refine lv_if_eq (tgt := 17) hx hb dJ0_isLatin1_aae02_3 (by decide) (fun h => absurd h (by decide)) (fun _ => ?_)
  refine lv_aload_n hx hb dJ0_isLatin1_aae02_6 rfl (lv_at hl 0 rfl) ?_
  refine vk_getf hx hb (hT.1.1 i hi).2.1 hQ.2 E.2.2.1 (E.2.2.2.1 _ q2160) (fun _ h => h) dJ0_isLatin1_aae02_7 ?_
  refine lv_if_ne (tgt := 17) hx hb dJ0_isLatin1_aae02_10 (by decide) (fun h => absurd rfl h) (fun _ => ?_)
  refine lv_iconst (v := 1) hx hb dJ0_isLatin1_aae02_13 (by decide) ?_
  refine lv_goto (tgt := 18) hx hb dJ0_isLatin1_aae02_14 (by decide) ?_
  exact xrt E hr hlk hQ rfl ⟨rfl, rfl⟩ dJ0_isLatin1_aae02_18
theorem dPc_0 : decode cJ3_checkIndex_8e157 0 = .ok (.iload_n 0, 1) := by decide +kernel
theorem dPc_1 : decode cJ3_checkIndex_8e157 1 = .ok (.ifCond .lt 8, 3) := by decide +kernel
theorem dPc_4 : decode cJ3_checkIndex_8e157 4 = .ok (.iload_n 0, 1) := by decide +kernel
theorem dPc_5 : decode cJ3_checkIndex_8e157 5 = .ok (.iload_n 1, 1) := by decide +kernel
theorem dPc_6 : decode cJ3_checkIndex_8e157 6 = .ok (.if_icmp .lt 10, 3) := by decide +kernel
theorem dPc_16 : decode cJ3_checkIndex_8e157 16 = .ok (.iload_n 0, 1) := by decide +kernel
theorem dPc_17 : decode cJ3_checkIndex_8e157 17 = .ok (.ireturn, 1) := by decide +kernel
set_option maxHeartbeats 4000000 in
set_option maxRecDepth 100000 in
theorem uPre (l : Launch) (g : GG) (tt : TT) (ad : Nat → Nat) (N : Nat) (hD : Dj ad N) (S : SS) (a b : Int32) (z : Nat) (h0 : 0 ≤ a.toInt) (h1 : a.toInt < b.toInt) : Met l yJ3_checkIndex_8e157 (wG (.code yJ3_checkIndex_8e157 cJ3_checkIndex_8e157 3 (some .int))) (Rm 0) (XPreT g tt ad N S [.int a, .int b, .ref z]) (va_Qi (fun _ S' => S = S') (QB g ad N) (FA ad N)) 0 0 (FA ad N) := by
  refine xmetT cJ3_checkIndex_8e157 "jdk/internal/util/Preconditions" (by decide) rfl (Nat.le_of_ble_eq_true rfl) (fun p e s m below meth c E hT hr hlk hml hQ ls hl => ?_)
  have hx := E.1
  have hb := E.2.1
  have hl : lv_has ls 3 [(0, .int a), (1, .int b), (2, .ref z)] := hl
  refine lv_iload_n hx hb dPc_0 rfl (lv_at hl 0 rfl) ?_
  refine lv_if_lt (tgt := 9) hx hb dPc_1 (by decide) (fun h => absurd (tlt0 h) (by omega)) (fun _ => ?_)
  refine lv_iload_n hx hb dPc_4 rfl (lv_at hl 0 rfl) ?_
  refine lv_iload_n hx hb dPc_5 rfl (lv_at hl 1 rfl) ?_
  refine lv_icmp_lt (tgt := 16) hx hb dPc_6 (by decide) (fun _ => ?_) (fun h => absurd (ib_nlt h) (by omega))
  refine lv_iload_n hx hb dPc_16 rfl (lv_at hl 0 rfl) ?_
  exact xri E hr hlk hQ rfl dPc_17
set_option maxHeartbeats 4000000 in
set_option maxRecDepth 100000 in
theorem uPreN (l : Launch) (g : GG) (tt : TT) (ad : Nat → Nat) (N : Nat) (hD : Dj ad N) (S : SS) (a b : Int32) (h0 : 0 ≤ a.toInt) (h1 : a.toInt < b.toInt) : Met l yJ3_checkIndex_8e157 (wG (.code yJ3_checkIndex_8e157 cJ3_checkIndex_8e157 3 (some .int))) (Rm 0) (XPreT g tt ad N S [.int a, .int b, .null]) (va_Qi (fun _ S' => S = S') (QB g ad N) (FA ad N)) 0 0 (FA ad N) := by
  refine xmetT cJ3_checkIndex_8e157 "jdk/internal/util/Preconditions" (by decide) rfl (Nat.le_of_ble_eq_true rfl) (fun p e s m below meth c E hT hr hlk hml hQ ls hl => ?_)
  have hx := E.1
  have hb := E.2.1
  have hl : lv_has ls 3 [(0, .int a), (1, .int b), (2, .null)] := hl
  refine lv_iload_n hx hb dPc_0 rfl (lv_at hl 0 rfl) ?_
  refine lv_if_lt (tgt := 9) hx hb dPc_1 (by decide) (fun h => absurd (tlt0 h) (by omega)) (fun _ => ?_)
  refine lv_iload_n hx hb dPc_4 rfl (lv_at hl 0 rfl) ?_
  refine lv_iload_n hx hb dPc_5 rfl (lv_at hl 1 rfl) ?_
  refine lv_icmp_lt (tgt := 16) hx hb dPc_6 (by decide) (fun _ => ?_) (fun h => absurd (ib_nlt h) (by omega))
  refine lv_iload_n hx hb dPc_16 rfl (lv_at hl 0 rfl) ?_
  exact xri E hr hlk hQ rfl dPc_17
set_option maxHeartbeats 4000000 in
set_option maxRecDepth 100000 in
theorem uChk (l : Launch) (g : GG) (tt : TT) (ad : Nat → Nat) (N : Nat) (hD : Dj ad N) (S : SS) (a b : Int32) (h0 : 0 ≤ a.toInt) (h1 : a.toInt < b.toInt) : Met l yJ0_checkIndex_df160 (wG (.code yJ0_checkIndex_df160 cJ0_checkIndex_df160 2 none)) (Rm 1) (XPreT g tt ad N S [.int a, .int b]) (va_Qv (fun S' => S = S') (QB g ad N) (FA ad N)) 0 0 (FA ad N) := by
  refine xmetT cJ0_checkIndex_df160 "java/lang/String" (by decide) rfl (Nat.le_of_ble_eq_true rfl) (fun p e s m below meth c E hT hr hlk hml hQ ls hl => ?_)
  have hx := E.1
  have hb := E.2.1
  have hs : Sp ad N (FA ad N) := Sp.fa hD
  have hl : lv_has ls 2 [(0, .int a), (1, .int b)] := hl
  refine lv_iload_n hx hb dJ0_checkIndex_df160_0 rfl (lv_at hl 0 rfl) ?_
  refine lv_iload_n hx hb dJ0_checkIndex_df160_1 rfl (lv_at hl 1 rfl) ?_
  rcases hT.2.2.1 with hz | ⟨z, hz⟩
  · refine va_gets hx hb hz hQ.2 E.2.2.1 (E.2.2.2.1 _ q655) (fun _ h => h) dJ0_checkIndex_df160_2 ?_
    refine xcSiT E hs hQ hml hl.1 hT (uPreN l g tt ad N hD S a b h0 h1) mJ3_checkIndex_8e157 q657 rfl ⟨(Nat.le_of_ble_eq_true rfl), (Nat.le_of_ble_eq_true rfl)⟩ ⟨(Nat.le_of_ble_eq_true rfl), (Nat.le_of_ble_eq_true rfl)⟩ (Nat.le_of_ble_eq_true rfl) rfl dJ0_checkIndex_df160_5 (fun r S1 H locs hp hQ => ?_)
    subst hp
    refine lv_pop hx hb dJ0_checkIndex_df160_8 rfl ?_
    exact xrv E hr hlk hQ rfl dJ0_checkIndex_df160_9
  · refine va_gets hx hb hz hQ.2 E.2.2.1 (E.2.2.2.1 _ q655) (fun _ h => h) dJ0_checkIndex_df160_2 ?_
    refine xcSiT E hs hQ hml hl.1 hT (uPre l g tt ad N hD S a b z h0 h1) mJ3_checkIndex_8e157 q657 rfl ⟨(Nat.le_of_ble_eq_true rfl), (Nat.le_of_ble_eq_true rfl)⟩ ⟨(Nat.le_of_ble_eq_true rfl), (Nat.le_of_ble_eq_true rfl)⟩ (Nat.le_of_ble_eq_true rfl) rfl dJ0_checkIndex_df160_5 (fun r S1 H locs hp hQ => ?_)
    subst hp
    refine lv_pop hx hb dJ0_checkIndex_df160_8 rfl ?_
    exact xrv E hr hlk hQ rfl dJ0_checkIndex_df160_9
set_option maxHeartbeats 4000000 in
set_option maxRecDepth 100000 in
theorem uCh1 (l : Launch) (g : GG) (tt : TT) (ad : Nat → Nat) (N : Nat) (hD : Dj ad N) (S : SS) (i : Nat) (hi : i < 17) (a : Int32) (h0 : 0 ≤ a.toInt) (h1 : a.toInt < (lnT.getD i 0 : Nat)) : Met l yJ1_charAt_3b067 (wG (.code yJ1_charAt_3b067 cJ1_charAt_3b067 2 (some .char))) (Rm 2) (XPreT g tt ad N S [.ref (tt.2.1 i), .int a]) (va_Qi (fun r S' => S = S' ∧ narrow .char (.int r) = .int r) (QB g ad N) (FA ad N)) 0 0 (FA ad N) := by
  refine xmetT cJ1_charAt_3b067 "java/lang/StringLatin1" (by decide) rfl (Nat.le_of_ble_eq_true rfl) (fun p e s m below meth c E hT hr hlk hml hQ ls hl => ?_)
  have hx := E.1
  have hb := E.2.1
  have hs : Sp ad N (FA ad N) := Sp.fa hD
  have hl : lv_has ls 2 [(0, .ref (tt.2.1 i)), (1, .int a)] := hl
  have h7 := lnT_all i hi
  have hlen : (Int32.ofNat (lnT.getD i 0)).toInt = ((lnT.getD i 0 : Nat) : Int) := nI_toInt (by omega)
  refine lv_iload_n hx hb dJ1_charAt_3b067_0 rfl (lv_at hl 1 rfl) ?_
  refine lv_aload_n hx hb dJ1_charAt_3b067_1 rfl (lv_at hl 0 rfl) ?_
  refine va_tlen hx hb (hT.1.1 i hi).2.2.2 hQ.2 rfl dJ1_charAt_3b067_2 ?_
  refine xcSvT E hs hQ hml hl.1 hT (uChk l g tt ad N hD S a (Int32.ofNat (lnT.getD i 0)) h0 (by rw [hlen]; exact h1)) mJ0_checkIndex_df160 q652 rfl ⟨(Nat.le_of_ble_eq_true rfl), (Nat.le_of_ble_eq_true rfl)⟩ ⟨(Nat.le_of_ble_eq_true rfl), (Nat.le_of_ble_eq_true rfl)⟩ (Nat.le_of_ble_eq_true rfl) rfl dJ1_charAt_3b067_3 (fun S1 H locs hp hQ => ?_)
  subst hp
  refine lv_aload_n hx hb dJ1_charAt_3b067_6 rfl (lv_at hl 0 rfl) ?_
  refine lv_iload_n hx hb dJ1_charAt_3b067_7 rfl (lv_at hl 1 rfl) ?_
  refine va_tb hx hb (hT.1.1 i hi).2.2.2 hQ.2 (ib_inx h0 h1) rfl dJ1_charAt_3b067_8 ?_
  refine lv_sipush (v := 255) hx hb dJ1_charAt_3b067_9 (by decide) ?_
  refine lv_iand hx hb dJ1_charAt_3b067_12 ?_
  refine lv_i2c hx hb dJ1_charAt_3b067_13 rfl ?_
  exact xrt E hr hlk hQ (c_nar _) ⟨rfl, c_nar _⟩ dJ1_charAt_3b067_14
set_option maxHeartbeats 4000000 in
set_option maxRecDepth 100000 in
theorem uCharAt (l : Launch) (g : GG) (tt : TT) (ad : Nat → Nat) (N : Nat) (hD : Dj ad N) (S : SS) (i : Nat) (hi : i < 17) (a : Int32) (h0 : 0 ≤ a.toInt) (h1 : a.toInt < (lnT.getD i 0 : Nat)) : Met l yJ0_charAt_5068e (wG (.code yJ0_charAt_5068e cJ0_charAt_5068e 2 (some .char))) (Rm 3) (XPreT g tt ad N S [.ref (tt.1 i), .int a]) (va_Qi (fun _ S' => S = S') (QB g ad N) (FA ad N)) 0 0 (FA ad N) := by
  refine xmetT cJ0_charAt_5068e "java/lang/String" (by decide) rfl (Nat.le_of_ble_eq_true rfl) (fun p e s m below meth c E hT hr hlk hml hQ ls hl => ?_)
  have hx := E.1
  have hb := E.2.1
  have hs : Sp ad N (FA ad N) := Sp.fa hD
  have hl : lv_has ls 2 [(0, .ref (tt.1 i)), (1, .int a)] := hl
  refine lv_aload_n hx hb dJ0_charAt_5068e_0 rfl (lv_at hl 0 rfl) ?_
  refine xcTi E hs hQ hml hl.1 hT i (uLatin l g tt ad N hD S i hi) mJ0_isLatin1_aae02 q645 hi rfl ⟨(Nat.le_of_ble_eq_true rfl), (Nat.le_of_ble_eq_true rfl)⟩ ⟨(Nat.le_of_ble_eq_true rfl), (Nat.le_of_ble_eq_true rfl)⟩ (Nat.le_of_ble_eq_true rfl) rfl dJ0_charAt_5068e_1 (fun r S1 H locs hp hQ => ?_)
  obtain ⟨rfl, hr1⟩ := hp
  refine lv_if_eq (tgt := 16) hx hb dJ0_charAt_5068e_4 (by decide) (fun h => absurd (hr1.symm.trans h) (by decide)) (fun _ => ?_)
  refine lv_aload_n hx hb dJ0_charAt_5068e_7 rfl (lv_at hl 0 rfl) ?_
  refine vk_getf hx hb (hT.1.1 i hi).2.2.1 hQ.2 E.2.2.1 (E.2.2.2.1 _ q2159) (fun _ h => h) dJ0_charAt_5068e_8 ?_
  refine lv_iload_n hx hb dJ0_charAt_5068e_11 rfl (lv_at hl 1 rfl) ?_
  refine xcSiT E hs hQ hml hl.1 hT (uCh1 l g tt ad N hD S i hi a h0 h1) mJ1_charAt_3b067 q649 rfl ⟨(Nat.le_of_ble_eq_true rfl), (Nat.le_of_ble_eq_true rfl)⟩ ⟨(Nat.le_of_ble_eq_true rfl), (Nat.le_of_ble_eq_true rfl)⟩ (Nat.le_of_ble_eq_true rfl) rfl dJ0_charAt_5068e_12 (fun r2 S1 H locs hp hQ => ?_)
  obtain ⟨rfl, hn2⟩ := hp
  exact xrt E hr hlk hQ hn2 rfl dJ0_charAt_5068e_15
set_option maxHeartbeats 4000000 in
set_option maxRecDepth 100000 in
theorem uLen (l : Launch) (g : GG) (tt : TT) (ad : Nat → Nat) (N : Nat) (hD : Dj ad N) (S : SS) (i : Nat) (hi : i < 17) : Met l yJ0_length_8abf5 (wG (.code yJ0_length_8abf5 cJ0_length_8abf5 1 (some .int))) (Rm 1) (XPreT g tt ad N S [.ref (tt.1 i)]) (va_Qi (fun r S' => S = S' ∧ r.toInt = ((lnT.getD i 0 : Nat) : Int)) (QB g ad N) (FA ad N)) 0 0 (FA ad N) := by
  refine xmetT cJ0_length_8abf5 "java/lang/String" (by decide) rfl (Nat.le_of_ble_eq_true rfl) (fun p e s m below meth c E hT hr hlk hml hQ ls hl => ?_)
  have hx := E.1
  have hb := E.2.1
  have hs : Sp ad N (FA ad N) := Sp.fa hD
  have hl : lv_has ls 1 [(0, .ref (tt.1 i))] := hl
  have h7 := lnT_all i hi
  refine lv_aload_n hx hb dJ0_length_8abf5_0 rfl (lv_at hl 0 rfl) ?_
  refine vk_getf hx hb (hT.1.1 i hi).2.2.1 hQ.2 E.2.2.1 (E.2.2.2.1 _ q2159) (fun _ h => h) dJ0_length_8abf5_1 ?_
  refine va_tlen hx hb (hT.1.1 i hi).2.2.2 hQ.2 rfl dJ0_length_8abf5_4 ?_
  refine lv_aload_n hx hb dJ0_length_8abf5_5 rfl (lv_at hl 0 rfl) ?_
  refine xcTi E hs hQ hml hl.1 hT i (uCoder l g tt ad N hD S i hi) mJ0_coder_7d493 q635 hi rfl ⟨(Nat.le_of_ble_eq_true rfl), (Nat.le_of_ble_eq_true rfl)⟩ ⟨(Nat.le_of_ble_eq_true rfl), (Nat.le_of_ble_eq_true rfl)⟩ (Nat.le_of_ble_eq_true rfl) rfl dJ0_length_8abf5_6 (fun r S1 H locs hp hQ => ?_)
  obtain ⟨rfl, rfl⟩ := hp
  refine lv_ishr hx hb dJ0_length_8abf5_9 ?_
  exact xri E hr hlk hQ ⟨rfl, by rw [show (Int32.ofNat (lnT.getD i 0)) >>> ((0 : Int32) &&& 31) = nI (lnT.getD i 0) from sc_shr0 (by omega)]; exact nI_toInt (by omega)⟩ dJ0_length_8abf5_10
