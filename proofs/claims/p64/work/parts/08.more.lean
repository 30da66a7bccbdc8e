theorem dJ7_fill_031fb_0 : decode cJ7_fill_031fb 0 = .ok (.iconst 0, 1) := by decide +kernel
theorem dJ7_fill_031fb_1 : decode cJ7_fill_031fb 1 = .ok (.istore_n 2, 1) := by decide +kernel
theorem dJ7_fill_031fb_2 : decode cJ7_fill_031fb 2 = .ok (.aload_n 0, 1) := by decide +kernel
theorem dJ7_fill_031fb_3 : decode cJ7_fill_031fb 3 = .ok (.arraylength, 1) := by decide +kernel
theorem dJ7_fill_031fb_4 : decode cJ7_fill_031fb 4 = .ok (.istore_n 3, 1) := by decide +kernel
theorem dJ7_fill_031fb_5 : decode cJ7_fill_031fb 5 = .ok (.iload_n 2, 1) := by decide +kernel
theorem dJ7_fill_031fb_6 : decode cJ7_fill_031fb 6 = .ok (.iload_n 3, 1) := by decide +kernel
theorem dJ7_fill_031fb_7 : decode cJ7_fill_031fb 7 = .ok (.if_icmp .ge 13, 3) := by decide +kernel
theorem dJ7_fill_031fb_10 : decode cJ7_fill_031fb 10 = .ok (.aload_n 0, 1) := by decide +kernel
theorem dJ7_fill_031fb_11 : decode cJ7_fill_031fb 11 = .ok (.iload_n 2, 1) := by decide +kernel
theorem dJ7_fill_031fb_12 : decode cJ7_fill_031fb 12 = .ok (.iload_n 1, 1) := by decide +kernel
theorem dJ7_fill_031fb_13 : decode cJ7_fill_031fb 13 = .ok (.bastore, 1) := by decide +kernel
theorem dJ7_fill_031fb_14 : decode cJ7_fill_031fb 14 = .ok (.iinc 2 1, 3) := by decide +kernel
theorem dJ7_fill_031fb_17 : decode cJ7_fill_031fb 17 = .ok (.goto (-12), 3) := by decide +kernel
theorem dJ7_fill_031fb_20 : decode cJ7_fill_031fb 20 = .ok (.return_, 1) := by decide +kernel
set_option maxHeartbeats 4000000 in
set_option maxRecDepth 100000 in
/-- Arrays.fill(byte[], byte) -/
theorem uFillB (l : Launch) (g : GG) (ad : Nat → Nat) (N : Nat) (hD : Dj ad N) (S : SS) (k : Nat) (hk : k < N) (n : Nat) (hn : n < 2 ^ 31) (f : Nat → Int32) (v : Int32) (hS : S k = .inl (g.2 1, n, .inl f)) : Met l yJ7_fill_031fb (wG (.code yJ7_fill_031fb cJ7_fill_031fb 4 none)) (Rm 0) (XPre g ad N S [.ref (ad k), .int v]) (va_Qv (fun S' => S' = va_up S k (.inl (g.2 1, n, .inl (fillF (vp_nar .byte v) n f)))) (QB g ad N) (FA ad N)) 0 0 (FA ad N) := by
  refine xmet cJ7_fill_031fb "java/util/Arrays" (by decide) rfl (Nat.le_of_ble_eq_true rfl) (fun p e s m below meth c E hr hlk hml hQ ls hl => ?_)
  have hx := E.1
  have hb := E.2.1
  have hs : Sp ad N (FA ad N) := Sp.fa hD
  have loop : ∀ (q i : Nat) (S1 : SS) (H : Heap) (locs : List Loc) (ls : Array Slot), i ≤ n → n - i < q → S1 = va_up S k (.inl (g.2 1, n, .inl (fillF (vp_nar .byte v) i f))) → Hp g ad N S1 (FA ad N) s.heap H locs → lv_has ls 4 [(0, .ref (ad k)), (1, .int v), (2, .int (nI i)), (3, .int (nI n))] → W p l e (Rm 0) s m [.ref (ad k), .int v].toArray below meth c H locs 0 0 (MQ below (va_Qv (fun S' => S' = va_up S k (.inl (g.2 1, n, .inl (fillF (vp_nar .byte v) n f)))) (QB g ad N) (FA ad N)) [.ref (ad k), .int v].toArray s 0 0 (FA ad N)) (F0 m 5 ls []) := by
    intro q
    induction q with
    | zero => intro i S1 H locs ls h1 h2; exact absurd h2 (by omega)
    | succ q ih =>
      intro i S1 H locs ls hi hq e1 hQ hl
      refine lv_iload_n hx hb dJ7_fill_031fb_5 rfl (lv_at hl 2 rfl) ?_
      refine lv_iload_n hx hb dJ7_fill_031fb_6 rfl (lv_at hl 3 rfl) ?_
      refine lv_icmp_ge (tgt := 20) hx hb dJ7_fill_031fb_7 (by decide) (fun c1 => ?_) (fun c1 => ?_)
      · have hin : i = n := by
          rcases Nat.lt_or_ge i n with h | h
          · exact absurd c1 (nI_ge h hn)
          · omega
        subst hin
        exact xrv E hr hlk hQ e1 dJ7_fill_031fb_20
      · have hlt : i < n := by
          rcases Nat.lt_or_ge i n with h | h
          · exact h
          · exact absurd (nI_le h (by omega)) c1
        refine lv_aload_n hx hb dJ7_fill_031fb_10 rfl (lv_at hl 0 rfl) ?_
        refine lv_iload_n hx hb dJ7_fill_031fb_11 rfl (lv_at hl 2 rfl) ?_
        refine lv_iload_n hx hb dJ7_fill_031fb_12 rfl (lv_at hl 1 rfl) ?_
        refine xbast E hs hQ k hk (up_at e1 rfl) (vp_in_nI hlt hn) dJ7_fill_031fb_13 (fun H locs S2 e2 hQ => ?_)
        refine lv_iinc (v := nI (i + 1)) (lv' := [(2, .int (nI (i + 1))), (0, .ref (ad k)), (1, .int v), (3, .int (nI n))]) hx hb dJ7_fill_031fb_14 hl (k := 2) rfl (nI_1 i) (by decide) rfl (fun ls hl => ?_)
        refine lv_goto (tgt := 5) hx hb dJ7_fill_031fb_17 (by decide) ?_
        exact ih (i + 1) S2 _ _ _ hlt (by omega) (by rw [e2, e1, up_up, nI_clamp (by omega), fill_succ]) hQ (lv_sub hl [1, 2, 0, 3] rfl)
  have hl : lv_has ls 4 [(0, .ref (ad k)), (1, .int v)] := hl
  refine lv_iconst (v := 0) hx hb dJ7_fill_031fb_0 (by decide) ?_
  refine lv_istore_n (lv' := [(2, .int 0), (0, .ref (ad k)), (1, .int v)]) hx hb dJ7_fill_031fb_1 rfl hl (by decide) rfl (fun ls hl => ?_)
  refine lv_aload_n hx hb dJ7_fill_031fb_2 rfl (lv_at hl 1 rfl) ?_
  refine xalen (v := nI n) E hQ k hk 1 hS rfl rfl dJ7_fill_031fb_3 ?_
  refine lv_istore_n (lv' := [(3, .int (nI n)), (2, .int 0), (0, .ref (ad k)), (1, .int v)]) hx hb dJ7_fill_031fb_4 rfl hl (by decide) rfl (fun ls hl => ?_)
  refine loop (n + 1) 0 S _ _ _ (Nat.zero_le n) (by omega) ?_ hQ ?_
  · rw [show fillF (vp_nar .byte v) 0 f = f from by funext j; simp [fillF]]
    exact up_id hS
  · exact lv_sub hl [2, 3, 1, 0] rfl
section XL
variable {p : Program} {l : Launch} {e : Env} {R : Room} {s : State} {m : MethodId} {args : Array Value} {below : List Frame} {meth : Method} {c : Code} {H : Heap} {locs : List Loc} {cells slots : Nat} {Q : State → Prop}
variable {cc : ByteArray} {pc : Nat} {ls : Array Slot} {rest : List Value} {own : String} {g : GG} {ad : Nat → Nat} {N : Nat} {S : SS} {A : Nat → Prop} {H0 : Heap}
theorem xcopyl (E : Ev p s m args c cc own g) (hs : Sp ad N A) (hQ : Hp g ad N S A H0 H locs) {nL : Nat} (hml : c.maxLocals = nL) (hls : ls.size = nL) (k0 : Nat) (hk0 : k0 < N) (k : Nat) (hk : k < N) {n0 n1 : Nat} {f f1 : Nat → Int64} (hS0 : S k0 = .inl (g.2 2, n0, .inr (.inl f))) (hS : S k = .inl (g.2 2, n1, .inr (.inl f1))) {index : Nat} (hq : Cond.methodLink own index arraycopyName ∈ lw_g)
    {sp dp n : Int32} (h1 : ¬ sp < 0) (h2 : ¬ dp < 0) (h3 : ¬ n < 0) (h4 : sp.toNatClampNeg + n.toNatClampNeg ≤ n0) (h5 : dp.toNatClampNeg + n.toNatClampNeg ≤ n1) (hframes : 1 ≤ R.frames) (hlocals : (rest.map fun v => v.category).sum + (nativeFrameWords "java/lang/System" "arraycopy" 5 + 11) ≤ R.locals) (hdg : decode cc pc = .ok (.invokestatic index, 3))
    (kk : ∀ (H1 : Heap) (locs1 : List Loc) (S1 : SS), S1 = va_up S k (.inl (g.2 2, n1, .inr (.inl (va_cpy f f1 sp.toNatClampNeg dp.toNatClampNeg n.toNatClampNeg)))) → Hp g ad N S1 A H0 H1 locs1 → W p l e R s m args below meth c H1 locs1 cells slots Q (F0 m (pc + 3) ls rest)) : W p l e R s m args below meth c H locs cells slots Q (F0 m pc ls (.int n :: .int dp :: .ref (ad k) :: .int sp :: .ref (ad k0) :: rest)) := by
  refine va_copyl (ws := wl ad N S) (ty := .long) E.1 E.2.1 (hml.trans hls.symm) E.2.2.1 (E.2.2.2.1 _ hq) (E.2.2.2.1 _ (mg (by decide +kernel) rfl)) (E.2.2.2.1 _ (mg (by decide +kernel) rfl)) (E.2.2.2.1 _ (mg (by decide +kernel) rfl)) E.2.2.2.2 hQ.1.toP hs.toD hQ.2 k0 k 2 2 (by rw [wl_get hk0, hS0]) (by rw [wl_get hk, hS]) rfl rfl rfl h1 h2 h3 h4 h5 (fun i hi => rfl) hframes hlocals hdg (fun H1 locs1 hP hD hS1 => ?_)
  rw [wl_set hk] at hP
  exact kk H1 locs1 _ rfl ⟨PW.ofP hP, hS1⟩
end XL
