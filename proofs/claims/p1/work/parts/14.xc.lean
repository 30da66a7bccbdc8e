set_option maxHeartbeats 4000000 in
set_option maxRecDepth 100000 in
theorem putNumber_0 (l : Launch) (g : GG) (ad : Nat → Nat) (hD : Dj ad 122) (S : SS) (a1 : Int32) (f1 : Nat → Int32) (h0 : S 0 = .inr (11, [.ref (ad 1), .int 0, .int 0, .int (-1), .ref (ad 2), .ref (ad 20), .ref (ad 38), .ref (ad 93), .ref (ad 94), .ref (ad 95), .ref (ad 102), .ref (ad 104), .ref (ad 107), .ref (ad 111), .ref (ad 119)])) (h1 : S 1 = .inl (g.2 1, 1200, .inl f1)) : Met l yX11_putNumber (wG (.code yX11_putNumber cX11_putNumber 3 none)) (Rm 0) (XPre g ad 122 S [.ref (ad 0), .int a1]) (va_Qv (fun S' => (∀ j, j ∉ ([1, 0] : List Nat) → S' j = S j) ∧ (∃ f : Nat → Int32, S' 1 = .inl (g.2 1, 1200, .inl f)) ∧ S' 0 = .inr (11, [.ref (ad 1), .int 4, .int 0, .int (-1), .ref (ad 2), .ref (ad 20), .ref (ad 38), .ref (ad 93), .ref (ad 94), .ref (ad 95), .ref (ad 102), .ref (ad 104), .ref (ad 107), .ref (ad 111), .ref (ad 119)])) (QB g ad 122) (FA ad 122)) 0 0 (FA ad 122) := by
  refine xmet cX11_putNumber "EbbWreck" (by decide) rfl (Nat.le_of_ble_eq_true rfl) (fun p e s m below meth c E hr hlk hml hQ ls hl => ?_)
  have hx := E.1
  have hb := E.2.1
  have hs : Sp ad 122 (FA ad 122) := Sp.fa hD
  have hl : lv_has ls 3 [(0, .ref (ad 0)), (1, .int a1)] := hl
  refine lv_bipush (v := 24) hx hb dX11_putNumber_0 (by decide) ?_
  refine lv_istore_n (lv' := [(2, .int 24), (0, .ref (ad 0)), (1, .int a1)]) hx hb dX11_putNumber_2 rfl hl (by decide) rfl (fun ls hl => ?_)
  refine lv_iload_n hx hb dX11_putNumber_3 rfl (lv_at hl 0 rfl) ?_
  refine lv_if_lt (tgt := 46) hx hb dX11_putNumber_4 (by decide) (fun k_1 => absurd k_1 (by decide)) (fun k_1 => ?_)
  refine lv_aload_n hx hb dX11_putNumber_7 rfl (lv_at hl 1 rfl) ?_
  refine xget E hQ 0 (by decide) h0 rfl 1 (by decide) q517 rfl dX11_putNumber_8 ?_
  refine lv_sipush (v := 1200) hx hb dX11_putNumber_11 (by decide) ?_
  refine lv_icmp_ge (tgt := 40) hx hb dX11_putNumber_14 (by decide) (fun k_2 => absurd k_2 (by decide)) (fun k_2 => ?_)
  refine lv_aload_n hx hb dX11_putNumber_17 rfl (lv_at hl 1 rfl) ?_
  refine xget E hQ 0 (by decide) h0 rfl 0 (by decide) q516 rfl dX11_putNumber_18 ?_
  refine lv_aload_n hx hb dX11_putNumber_21 rfl (lv_at hl 1 rfl) ?_
  refine xget E hQ 0 (by decide) h0 rfl 1 (by decide) q517 rfl dX11_putNumber_22 ?_
  refine lv_iload_n hx hb dX11_putNumber_25 rfl (lv_at hl 2 rfl) ?_
  refine lv_iload_n hx hb dX11_putNumber_26 rfl (lv_at hl 0 rfl) ?_
  refine lv_ishr hx hb dX11_putNumber_27 ?_
  refine lv_i2b hx hb dX11_putNumber_28 rfl ?_
  refine xbast E hs hQ 1 (by decide) h1 (vp_in_lit 0 1200 (by decide)) dX11_putNumber_29 (fun H locs S3 e3 hQ => ?_)
  have u3 : S3 1 = .inl (g.2 1, 1200, .inl (upd f1 (0 : Int32).toNatClampNeg (vp_nar .byte ((a1 >>> (24 &&& 31)).toInt8.toInt32)))) := up_at e3 rfl
  refine lv_aload_n hx hb dX11_putNumber_30 rfl (lv_at hl 1 rfl) ?_
  refine lv_dup hx hb dX11_putNumber_31 rfl ?_
  have c_4 : S3 0 = .inr (11, [.ref (ad 1), .int 0, .int 0, .int (-1), .ref (ad 2), .ref (ad 20), .ref (ad 38), .ref (ad 93), .ref (ad 94), .ref (ad 95), .ref (ad 102), .ref (ad 104), .ref (ad 107), .ref (ad 111), .ref (ad 119)]) := (up_ne e3 (by decide) h0)
  refine xget E hQ 0 (by decide) c_4 rfl 1 (by decide) q517 rfl dX11_putNumber_32 ?_
  refine lv_iconst (v := 1) hx hb dX11_putNumber_35 (by decide) ?_
  refine lv_iadd hx hb dX11_putNumber_36 ?_
  refine sb_at (P := fun z => W _ _ _ _ _ _ _ _ _ _ _ _ _ _ _ (F0 _ _ _ (.int z :: _))) (show (0 : Int32) + 1 = 1 by decide) ?_
  refine xputi E hs hQ 0 (by decide) c_4 rfl 1 (by decide) q517 rfl rfl (Nat.le_of_ble_eq_true rfl) dX11_putNumber_37 (fun H locs S5 e5 hQ => ?_)
  have u5 : S5 0 = .inr (11, [.ref (ad 1), .int 1, .int 0, .int (-1), .ref (ad 2), .ref (ad 20), .ref (ad 38), .ref (ad 93), .ref (ad 94), .ref (ad 95), .ref (ad 102), .ref (ad 104), .ref (ad 107), .ref (ad 111), .ref (ad 119)]) := up_at e5 rfl
  refine lv_iinc (v := 16) (lv' := [(2, .int 16), (0, .ref (ad 0)), (1, .int a1)]) hx hb dX11_putNumber_40 hl (k := 0) rfl (by decide) (by decide) rfl (fun ls hl => ?_)
  refine lv_goto (tgt := 3) hx hb dX11_putNumber_43 (by decide) ?_
  refine lv_iload_n hx hb dX11_putNumber_3 rfl (lv_at hl 0 rfl) ?_
  refine lv_if_lt (tgt := 46) hx hb dX11_putNumber_4 (by decide) (fun k_6 => absurd k_6 (by decide)) (fun k_6 => ?_)
  refine lv_aload_n hx hb dX11_putNumber_7 rfl (lv_at hl 1 rfl) ?_
  refine xget E hQ 0 (by decide) u5 rfl 1 (by decide) q517 rfl dX11_putNumber_8 ?_
  refine lv_sipush (v := 1200) hx hb dX11_putNumber_11 (by decide) ?_
  refine lv_icmp_ge (tgt := 40) hx hb dX11_putNumber_14 (by decide) (fun k_7 => absurd k_7 (by decide)) (fun k_7 => ?_)
  refine lv_aload_n hx hb dX11_putNumber_17 rfl (lv_at hl 1 rfl) ?_
  refine xget E hQ 0 (by decide) u5 rfl 0 (by decide) q516 rfl dX11_putNumber_18 ?_
  refine lv_aload_n hx hb dX11_putNumber_21 rfl (lv_at hl 1 rfl) ?_
  refine xget E hQ 0 (by decide) u5 rfl 1 (by decide) q517 rfl dX11_putNumber_22 ?_
  refine lv_iload_n hx hb dX11_putNumber_25 rfl (lv_at hl 2 rfl) ?_
  refine lv_iload_n hx hb dX11_putNumber_26 rfl (lv_at hl 0 rfl) ?_
  refine lv_ishr hx hb dX11_putNumber_27 ?_
  refine lv_i2b hx hb dX11_putNumber_28 rfl ?_
  have c_8 : S5 1 = .inl (g.2 1, 1200, .inl (upd f1 (0 : Int32).toNatClampNeg (vp_nar .byte ((a1 >>> (24 &&& 31)).toInt8.toInt32)))) := (up_ne e5 (by decide) u3)
  refine xbast E hs hQ 1 (by decide) c_8 (vp_in_lit 1 1200 (by decide)) dX11_putNumber_29 (fun H locs S9 e9 hQ => ?_)
  have u9 : S9 1 = .inl (g.2 1, 1200, .inl (upd (upd f1 (0 : Int32).toNatClampNeg (vp_nar .byte ((a1 >>> (24 &&& 31)).toInt8.toInt32))) (1 : Int32).toNatClampNeg (vp_nar .byte ((a1 >>> (16 &&& 31)).toInt8.toInt32)))) := up_at e9 rfl
  refine lv_aload_n hx hb dX11_putNumber_30 rfl (lv_at hl 1 rfl) ?_
  refine lv_dup hx hb dX11_putNumber_31 rfl ?_
  have c_10 : S9 0 = .inr (11, [.ref (ad 1), .int 1, .int 0, .int (-1), .ref (ad 2), .ref (ad 20), .ref (ad 38), .ref (ad 93), .ref (ad 94), .ref (ad 95), .ref (ad 102), .ref (ad 104), .ref (ad 107), .ref (ad 111), .ref (ad 119)]) := (up_ne e9 (by decide) u5)
  refine xget E hQ 0 (by decide) c_10 rfl 1 (by decide) q517 rfl dX11_putNumber_32 ?_
  refine lv_iconst (v := 1) hx hb dX11_putNumber_35 (by decide) ?_
  refine lv_iadd hx hb dX11_putNumber_36 ?_
  refine sb_at (P := fun z => W _ _ _ _ _ _ _ _ _ _ _ _ _ _ _ (F0 _ _ _ (.int z :: _))) (show (1 : Int32) + 1 = 2 by decide) ?_
  refine xputi E hs hQ 0 (by decide) c_10 rfl 1 (by decide) q517 rfl rfl (Nat.le_of_ble_eq_true rfl) dX11_putNumber_37 (fun H locs S11 e11 hQ => ?_)
  have u11 : S11 0 = .inr (11, [.ref (ad 1), .int 2, .int 0, .int (-1), .ref (ad 2), .ref (ad 20), .ref (ad 38), .ref (ad 93), .ref (ad 94), .ref (ad 95), .ref (ad 102), .ref (ad 104), .ref (ad 107), .ref (ad 111), .ref (ad 119)]) := up_at e11 rfl
  refine lv_iinc (v := 8) (lv' := [(2, .int 8), (0, .ref (ad 0)), (1, .int a1)]) hx hb dX11_putNumber_40 hl (k := 0) rfl (by decide) (by decide) rfl (fun ls hl => ?_)
  refine lv_goto (tgt := 3) hx hb dX11_putNumber_43 (by decide) ?_
  refine lv_iload_n hx hb dX11_putNumber_3 rfl (lv_at hl 0 rfl) ?_
  refine lv_if_lt (tgt := 46) hx hb dX11_putNumber_4 (by decide) (fun k_12 => absurd k_12 (by decide)) (fun k_12 => ?_)
  refine lv_aload_n hx hb dX11_putNumber_7 rfl (lv_at hl 1 rfl) ?_
  refine xget E hQ 0 (by decide) u11 rfl 1 (by decide) q517 rfl dX11_putNumber_8 ?_
  refine lv_sipush (v := 1200) hx hb dX11_putNumber_11 (by decide) ?_
  refine lv_icmp_ge (tgt := 40) hx hb dX11_putNumber_14 (by decide) (fun k_13 => absurd k_13 (by decide)) (fun k_13 => ?_)
  refine lv_aload_n hx hb dX11_putNumber_17 rfl (lv_at hl 1 rfl) ?_
  refine xget E hQ 0 (by decide) u11 rfl 0 (by decide) q516 rfl dX11_putNumber_18 ?_
  refine lv_aload_n hx hb dX11_putNumber_21 rfl (lv_at hl 1 rfl) ?_
  refine xget E hQ 0 (by decide) u11 rfl 1 (by decide) q517 rfl dX11_putNumber_22 ?_
  refine lv_iload_n hx hb dX11_putNumber_25 rfl (lv_at hl 2 rfl) ?_
  refine lv_iload_n hx hb dX11_putNumber_26 rfl (lv_at hl 0 rfl) ?_
  refine lv_ishr hx hb dX11_putNumber_27 ?_
  refine lv_i2b hx hb dX11_putNumber_28 rfl ?_
  have c_14 : S11 1 = .inl (g.2 1, 1200, .inl (upd (upd f1 (0 : Int32).toNatClampNeg (vp_nar .byte ((a1 >>> (24 &&& 31)).toInt8.toInt32))) (1 : Int32).toNatClampNeg (vp_nar .byte ((a1 >>> (16 &&& 31)).toInt8.toInt32)))) := (up_ne e11 (by decide) u9)
  refine xbast E hs hQ 1 (by decide) c_14 (vp_in_lit 2 1200 (by decide)) dX11_putNumber_29 (fun H locs S15 e15 hQ => ?_)
  have u15 : S15 1 = .inl (g.2 1, 1200, .inl (upd (upd (upd f1 (0 : Int32).toNatClampNeg (vp_nar .byte ((a1 >>> (24 &&& 31)).toInt8.toInt32))) (1 : Int32).toNatClampNeg (vp_nar .byte ((a1 >>> (16 &&& 31)).toInt8.toInt32))) (2 : Int32).toNatClampNeg (vp_nar .byte ((a1 >>> (8 &&& 31)).toInt8.toInt32)))) := up_at e15 rfl
  refine lv_aload_n hx hb dX11_putNumber_30 rfl (lv_at hl 1 rfl) ?_
  refine lv_dup hx hb dX11_putNumber_31 rfl ?_
  have c_16 : S15 0 = .inr (11, [.ref (ad 1), .int 2, .int 0, .int (-1), .ref (ad 2), .ref (ad 20), .ref (ad 38), .ref (ad 93), .ref (ad 94), .ref (ad 95), .ref (ad 102), .ref (ad 104), .ref (ad 107), .ref (ad 111), .ref (ad 119)]) := (up_ne e15 (by decide) u11)
  refine xget E hQ 0 (by decide) c_16 rfl 1 (by decide) q517 rfl dX11_putNumber_32 ?_
  refine lv_iconst (v := 1) hx hb dX11_putNumber_35 (by decide) ?_
  refine lv_iadd hx hb dX11_putNumber_36 ?_
  refine sb_at (P := fun z => W _ _ _ _ _ _ _ _ _ _ _ _ _ _ _ (F0 _ _ _ (.int z :: _))) (show (2 : Int32) + 1 = 3 by decide) ?_
  refine xputi E hs hQ 0 (by decide) c_16 rfl 1 (by decide) q517 rfl rfl (Nat.le_of_ble_eq_true rfl) dX11_putNumber_37 (fun H locs S17 e17 hQ => ?_)
  have u17 : S17 0 = .inr (11, [.ref (ad 1), .int 3, .int 0, .int (-1), .ref (ad 2), .ref (ad 20), .ref (ad 38), .ref (ad 93), .ref (ad 94), .ref (ad 95), .ref (ad 102), .ref (ad 104), .ref (ad 107), .ref (ad 111), .ref (ad 119)]) := up_at e17 rfl
  refine lv_iinc (v := 0) (lv' := [(2, .int 0), (0, .ref (ad 0)), (1, .int a1)]) hx hb dX11_putNumber_40 hl (k := 0) rfl (by decide) (by decide) rfl (fun ls hl => ?_)
  refine lv_goto (tgt := 3) hx hb dX11_putNumber_43 (by decide) ?_
  refine lv_iload_n hx hb dX11_putNumber_3 rfl (lv_at hl 0 rfl) ?_
  refine lv_if_lt (tgt := 46) hx hb dX11_putNumber_4 (by decide) (fun k_18 => absurd k_18 (by decide)) (fun k_18 => ?_)
  refine lv_aload_n hx hb dX11_putNumber_7 rfl (lv_at hl 1 rfl) ?_
  refine xget E hQ 0 (by decide) u17 rfl 1 (by decide) q517 rfl dX11_putNumber_8 ?_
  refine lv_sipush (v := 1200) hx hb dX11_putNumber_11 (by decide) ?_
  refine lv_icmp_ge (tgt := 40) hx hb dX11_putNumber_14 (by decide) (fun k_19 => absurd k_19 (by decide)) (fun k_19 => ?_)
  refine lv_aload_n hx hb dX11_putNumber_17 rfl (lv_at hl 1 rfl) ?_
  refine xget E hQ 0 (by decide) u17 rfl 0 (by decide) q516 rfl dX11_putNumber_18 ?_
  refine lv_aload_n hx hb dX11_putNumber_21 rfl (lv_at hl 1 rfl) ?_
  refine xget E hQ 0 (by decide) u17 rfl 1 (by decide) q517 rfl dX11_putNumber_22 ?_
  refine lv_iload_n hx hb dX11_putNumber_25 rfl (lv_at hl 2 rfl) ?_
  refine lv_iload_n hx hb dX11_putNumber_26 rfl (lv_at hl 0 rfl) ?_
  refine lv_ishr hx hb dX11_putNumber_27 ?_
  refine lv_i2b hx hb dX11_putNumber_28 rfl ?_
  have c_20 : S17 1 = .inl (g.2 1, 1200, .inl (upd (upd (upd f1 (0 : Int32).toNatClampNeg (vp_nar .byte ((a1 >>> (24 &&& 31)).toInt8.toInt32))) (1 : Int32).toNatClampNeg (vp_nar .byte ((a1 >>> (16 &&& 31)).toInt8.toInt32))) (2 : Int32).toNatClampNeg (vp_nar .byte ((a1 >>> (8 &&& 31)).toInt8.toInt32)))) := (up_ne e17 (by decide) u15)
  refine xbast E hs hQ 1 (by decide) c_20 (vp_in_lit 3 1200 (by decide)) dX11_putNumber_29 (fun H locs S21 e21 hQ => ?_)
  have u21 : S21 1 = .inl (g.2 1, 1200, .inl (upd (upd (upd (upd f1 (0 : Int32).toNatClampNeg (vp_nar .byte ((a1 >>> (24 &&& 31)).toInt8.toInt32))) (1 : Int32).toNatClampNeg (vp_nar .byte ((a1 >>> (16 &&& 31)).toInt8.toInt32))) (2 : Int32).toNatClampNeg (vp_nar .byte ((a1 >>> (8 &&& 31)).toInt8.toInt32))) (3 : Int32).toNatClampNeg (vp_nar .byte ((a1 >>> (0 &&& 31)).toInt8.toInt32)))) := up_at e21 rfl
  refine lv_aload_n hx hb dX11_putNumber_30 rfl (lv_at hl 1 rfl) ?_
  refine lv_dup hx hb dX11_putNumber_31 rfl ?_
  have c_22 : S21 0 = .inr (11, [.ref (ad 1), .int 3, .int 0, .int (-1), .ref (ad 2), .ref (ad 20), .ref (ad 38), .ref (ad 93), .ref (ad 94), .ref (ad 95), .ref (ad 102), .ref (ad 104), .ref (ad 107), .ref (ad 111), .ref (ad 119)]) := (up_ne e21 (by decide) u17)
  refine xget E hQ 0 (by decide) c_22 rfl 1 (by decide) q517 rfl dX11_putNumber_32 ?_
  refine lv_iconst (v := 1) hx hb dX11_putNumber_35 (by decide) ?_
  refine lv_iadd hx hb dX11_putNumber_36 ?_
  refine sb_at (P := fun z => W _ _ _ _ _ _ _ _ _ _ _ _ _ _ _ (F0 _ _ _ (.int z :: _))) (show (3 : Int32) + 1 = 4 by decide) ?_
  refine xputi E hs hQ 0 (by decide) c_22 rfl 1 (by decide) q517 rfl rfl (Nat.le_of_ble_eq_true rfl) dX11_putNumber_37 (fun H locs S23 e23 hQ => ?_)
  have u23 : S23 0 = .inr (11, [.ref (ad 1), .int 4, .int 0, .int (-1), .ref (ad 2), .ref (ad 20), .ref (ad 38), .ref (ad 93), .ref (ad 94), .ref (ad 95), .ref (ad 102), .ref (ad 104), .ref (ad 107), .ref (ad 111), .ref (ad 119)]) := up_at e23 rfl
  refine lv_iinc (v := (-8)) (lv' := [(2, .int (-8)), (0, .ref (ad 0)), (1, .int a1)]) hx hb dX11_putNumber_40 hl (k := 0) rfl (by decide) (by decide) rfl (fun ls hl => ?_)
  refine lv_goto (tgt := 3) hx hb dX11_putNumber_43 (by decide) ?_
  refine lv_iload_n hx hb dX11_putNumber_3 rfl (lv_at hl 0 rfl) ?_
  refine lv_if_lt (tgt := 46) hx hb dX11_putNumber_4 (by decide) (fun k_24 => ?_) (fun k_24 => absurd k_24 (by decide))
  have c_25 : S23 1 = .inl (g.2 1, 1200, .inl (upd (upd (upd (upd f1 (0 : Int32).toNatClampNeg (vp_nar .byte ((a1 >>> (24 &&& 31)).toInt8.toInt32))) (1 : Int32).toNatClampNeg (vp_nar .byte ((a1 >>> (16 &&& 31)).toInt8.toInt32))) (2 : Int32).toNatClampNeg (vp_nar .byte ((a1 >>> (8 &&& 31)).toInt8.toInt32))) (3 : Int32).toNatClampNeg (vp_nar .byte ((a1 >>> (0 &&& 31)).toInt8.toInt32)))) := (up_ne e23 (by decide) u21)
  exact xrv E hr hlk hQ (⟨fun j hj => (up_ne e23 (fun h => hj (by subst h; decide)) (up_ne e21 (fun h => hj (by subst h; decide)) (up_ne e17 (fun h => hj (by subst h; decide)) (up_ne e15 (fun h => hj (by subst h; decide)) (up_ne e11 (fun h => hj (by subst h; decide)) (up_ne e9 (fun h => hj (by subst h; decide)) (up_ne e5 (fun h => hj (by subst h; decide)) (up_ne e3 (fun h => hj (by subst h; decide)) rfl)))))))), ⟨_, c_25⟩, u23⟩) dX11_putNumber_46
set_option maxHeartbeats 4000000 in
set_option maxRecDepth 100000 in
theorem putNumber_4 (l : Launch) (g : GG) (ad : Nat → Nat) (hD : Dj ad 122) (S : SS) (a1 : Int32) (f1 : Nat → Int32) (h0 : S 0 = .inr (11, [.ref (ad 1), .int 4, .int 0, .int (-1), .ref (ad 2), .ref (ad 20), .ref (ad 38), .ref (ad 93), .ref (ad 94), .ref (ad 95), .ref (ad 102), .ref (ad 104), .ref (ad 107), .ref (ad 111), .ref (ad 119)])) (h1 : S 1 = .inl (g.2 1, 1200, .inl f1)) : Met l yX11_putNumber (wG (.code yX11_putNumber cX11_putNumber 3 none)) (Rm 0) (XPre g ad 122 S [.ref (ad 0), .int a1]) (va_Qv (fun S' => (∀ j, j ∉ ([1, 0] : List Nat) → S' j = S j) ∧ (∃ f : Nat → Int32, S' 1 = .inl (g.2 1, 1200, .inl f)) ∧ S' 0 = .inr (11, [.ref (ad 1), .int 8, .int 0, .int (-1), .ref (ad 2), .ref (ad 20), .ref (ad 38), .ref (ad 93), .ref (ad 94), .ref (ad 95), .ref (ad 102), .ref (ad 104), .ref (ad 107), .ref (ad 111), .ref (ad 119)])) (QB g ad 122) (FA ad 122)) 0 0 (FA ad 122) := by
  refine xmet cX11_putNumber "EbbWreck" (by decide) rfl (Nat.le_of_ble_eq_true rfl) (fun p e s m below meth c E hr hlk hml hQ ls hl => ?_)
  have hx := E.1
  have hb := E.2.1
  have hs : Sp ad 122 (FA ad 122) := Sp.fa hD
  have hl : lv_has ls 3 [(0, .ref (ad 0)), (1, .int a1)] := hl
  refine lv_bipush (v := 24) hx hb dX11_putNumber_0 (by decide) ?_
  refine lv_istore_n (lv' := [(2, .int 24), (0, .ref (ad 0)), (1, .int a1)]) hx hb dX11_putNumber_2 rfl hl (by decide) rfl (fun ls hl => ?_)
  refine lv_iload_n hx hb dX11_putNumber_3 rfl (lv_at hl 0 rfl) ?_
  refine lv_if_lt (tgt := 46) hx hb dX11_putNumber_4 (by decide) (fun k_1 => absurd k_1 (by decide)) (fun k_1 => ?_)
  refine lv_aload_n hx hb dX11_putNumber_7 rfl (lv_at hl 1 rfl) ?_
  refine xget E hQ 0 (by decide) h0 rfl 1 (by decide) q517 rfl dX11_putNumber_8 ?_
  refine lv_sipush (v := 1200) hx hb dX11_putNumber_11 (by decide) ?_
  refine lv_icmp_ge (tgt := 40) hx hb dX11_putNumber_14 (by decide) (fun k_2 => absurd k_2 (by decide)) (fun k_2 => ?_)
  refine lv_aload_n hx hb dX11_putNumber_17 rfl (lv_at hl 1 rfl) ?_
  refine xget E hQ 0 (by decide) h0 rfl 0 (by decide) q516 rfl dX11_putNumber_18 ?_
  refine lv_aload_n hx hb dX11_putNumber_21 rfl (lv_at hl 1 rfl) ?_
  refine xget E hQ 0 (by decide) h0 rfl 1 (by decide) q517 rfl dX11_putNumber_22 ?_
  refine lv_iload_n hx hb dX11_putNumber_25 rfl (lv_at hl 2 rfl) ?_
  refine lv_iload_n hx hb dX11_putNumber_26 rfl (lv_at hl 0 rfl) ?_
  refine lv_ishr hx hb dX11_putNumber_27 ?_
  refine lv_i2b hx hb dX11_putNumber_28 rfl ?_
  refine xbast E hs hQ 1 (by decide) h1 (vp_in_lit 4 1200 (by decide)) dX11_putNumber_29 (fun H locs S3 e3 hQ => ?_)
  have u3 : S3 1 = .inl (g.2 1, 1200, .inl (upd f1 (4 : Int32).toNatClampNeg (vp_nar .byte ((a1 >>> (24 &&& 31)).toInt8.toInt32)))) := up_at e3 rfl
  refine lv_aload_n hx hb dX11_putNumber_30 rfl (lv_at hl 1 rfl) ?_
  refine lv_dup hx hb dX11_putNumber_31 rfl ?_
  have c_4 : S3 0 = .inr (11, [.ref (ad 1), .int 4, .int 0, .int (-1), .ref (ad 2), .ref (ad 20), .ref (ad 38), .ref (ad 93), .ref (ad 94), .ref (ad 95), .ref (ad 102), .ref (ad 104), .ref (ad 107), .ref (ad 111), .ref (ad 119)]) := (up_ne e3 (by decide) h0)
  refine xget E hQ 0 (by decide) c_4 rfl 1 (by decide) q517 rfl dX11_putNumber_32 ?_
  refine lv_iconst (v := 1) hx hb dX11_putNumber_35 (by decide) ?_
  refine lv_iadd hx hb dX11_putNumber_36 ?_
  refine sb_at (P := fun z => W _ _ _ _ _ _ _ _ _ _ _ _ _ _ _ (F0 _ _ _ (.int z :: _))) (show (4 : Int32) + 1 = 5 by decide) ?_
  refine xputi E hs hQ 0 (by decide) c_4 rfl 1 (by decide) q517 rfl rfl (Nat.le_of_ble_eq_true rfl) dX11_putNumber_37 (fun H locs S5 e5 hQ => ?_)
  have u5 : S5 0 = .inr (11, [.ref (ad 1), .int 5, .int 0, .int (-1), .ref (ad 2), .ref (ad 20), .ref (ad 38), .ref (ad 93), .ref (ad 94), .ref (ad 95), .ref (ad 102), .ref (ad 104), .ref (ad 107), .ref (ad 111), .ref (ad 119)]) := up_at e5 rfl
  refine lv_iinc (v := 16) (lv' := [(2, .int 16), (0, .ref (ad 0)), (1, .int a1)]) hx hb dX11_putNumber_40 hl (k := 0) rfl (by decide) (by decide) rfl (fun ls hl => ?_)
  refine lv_goto (tgt := 3) hx hb dX11_putNumber_43 (by decide) ?_
  refine lv_iload_n hx hb dX11_putNumber_3 rfl (lv_at hl 0 rfl) ?_
  refine lv_if_lt (tgt := 46) hx hb dX11_putNumber_4 (by decide) (fun k_6 => absurd k_6 (by decide)) (fun k_6 => ?_)
  refine lv_aload_n hx hb dX11_putNumber_7 rfl (lv_at hl 1 rfl) ?_
  refine xget E hQ 0 (by decide) u5 rfl 1 (by decide) q517 rfl dX11_putNumber_8 ?_
  refine lv_sipush (v := 1200) hx hb dX11_putNumber_11 (by decide) ?_
  refine lv_icmp_ge (tgt := 40) hx hb dX11_putNumber_14 (by decide) (fun k_7 => absurd k_7 (by decide)) (fun k_7 => ?_)
  refine lv_aload_n hx hb dX11_putNumber_17 rfl (lv_at hl 1 rfl) ?_
  refine xget E hQ 0 (by decide) u5 rfl 0 (by decide) q516 rfl dX11_putNumber_18 ?_
  refine lv_aload_n hx hb dX11_putNumber_21 rfl (lv_at hl 1 rfl) ?_
  refine xget E hQ 0 (by decide) u5 rfl 1 (by decide) q517 rfl dX11_putNumber_22 ?_
  refine lv_iload_n hx hb dX11_putNumber_25 rfl (lv_at hl 2 rfl) ?_
  refine lv_iload_n hx hb dX11_putNumber_26 rfl (lv_at hl 0 rfl) ?_
  refine lv_ishr hx hb dX11_putNumber_27 ?_
  refine lv_i2b hx hb dX11_putNumber_28 rfl ?_
  have c_8 : S5 1 = .inl (g.2 1, 1200, .inl (upd f1 (4 : Int32).toNatClampNeg (vp_nar .byte ((a1 >>> (24 &&& 31)).toInt8.toInt32)))) := (up_ne e5 (by decide) u3)
  refine xbast E hs hQ 1 (by decide) c_8 (vp_in_lit 5 1200 (by decide)) dX11_putNumber_29 (fun H locs S9 e9 hQ => ?_)
  have u9 : S9 1 = .inl (g.2 1, 1200, .inl (upd (upd f1 (4 : Int32).toNatClampNeg (vp_nar .byte ((a1 >>> (24 &&& 31)).toInt8.toInt32))) (5 : Int32).toNatClampNeg (vp_nar .byte ((a1 >>> (16 &&& 31)).toInt8.toInt32)))) := up_at e9 rfl
  refine lv_aload_n hx hb dX11_putNumber_30 rfl (lv_at hl 1 rfl) ?_
  refine lv_dup hx hb dX11_putNumber_31 rfl ?_
  have c_10 : S9 0 = .inr (11, [.ref (ad 1), .int 5, .int 0, .int (-1), .ref (ad 2), .ref (ad 20), .ref (ad 38), .ref (ad 93), .ref (ad 94), .ref (ad 95), .ref (ad 102), .ref (ad 104), .ref (ad 107), .ref (ad 111), .ref (ad 119)]) := (up_ne e9 (by decide) u5)
  refine xget E hQ 0 (by decide) c_10 rfl 1 (by decide) q517 rfl dX11_putNumber_32 ?_
  refine lv_iconst (v := 1) hx hb dX11_putNumber_35 (by decide) ?_
  refine lv_iadd hx hb dX11_putNumber_36 ?_
  refine sb_at (P := fun z => W _ _ _ _ _ _ _ _ _ _ _ _ _ _ _ (F0 _ _ _ (.int z :: _))) (show (5 : Int32) + 1 = 6 by decide) ?_
  refine xputi E hs hQ 0 (by decide) c_10 rfl 1 (by decide) q517 rfl rfl (Nat.le_of_ble_eq_true rfl) dX11_putNumber_37 (fun H locs S11 e11 hQ => ?_)
  have u11 : S11 0 = .inr (11, [.ref (ad 1), .int 6, .int 0, .int (-1), .ref (ad 2), .ref (ad 20), .ref (ad 38), .ref (ad 93), .ref (ad 94), .ref (ad 95), .ref (ad 102), .ref (ad 104), .ref (ad 107), .ref (ad 111), .ref (ad 119)]) := up_at e11 rfl
  refine lv_iinc (v := 8) (lv' := [(2, .int 8), (0, .ref (ad 0)), (1, .int a1)]) hx hb dX11_putNumber_40 hl (k := 0) rfl (by decide) (by decide) rfl (fun ls hl => ?_)
  refine lv_goto (tgt := 3) hx hb dX11_putNumber_43 (by decide) ?_
  refine lv_iload_n hx hb dX11_putNumber_3 rfl (lv_at hl 0 rfl) ?_
  refine lv_if_lt (tgt := 46) hx hb dX11_putNumber_4 (by decide) (fun k_12 => absurd k_12 (by decide)) (fun k_12 => ?_)
  refine lv_aload_n hx hb dX11_putNumber_7 rfl (lv_at hl 1 rfl) ?_
  refine xget E hQ 0 (by decide) u11 rfl 1 (by decide) q517 rfl dX11_putNumber_8 ?_
  refine lv_sipush (v := 1200) hx hb dX11_putNumber_11 (by decide) ?_
  refine lv_icmp_ge (tgt := 40) hx hb dX11_putNumber_14 (by decide) (fun k_13 => absurd k_13 (by decide)) (fun k_13 => ?_)
  refine lv_aload_n hx hb dX11_putNumber_17 rfl (lv_at hl 1 rfl) ?_
  refine xget E hQ 0 (by decide) u11 rfl 0 (by decide) q516 rfl dX11_putNumber_18 ?_
  refine lv_aload_n hx hb dX11_putNumber_21 rfl (lv_at hl 1 rfl) ?_
  refine xget E hQ 0 (by decide) u11 rfl 1 (by decide) q517 rfl dX11_putNumber_22 ?_
  refine lv_iload_n hx hb dX11_putNumber_25 rfl (lv_at hl 2 rfl) ?_
  refine lv_iload_n hx hb dX11_putNumber_26 rfl (lv_at hl 0 rfl) ?_
  refine lv_ishr hx hb dX11_putNumber_27 ?_
  refine lv_i2b hx hb dX11_putNumber_28 rfl ?_
  have c_14 : S11 1 = .inl (g.2 1, 1200, .inl (upd (upd f1 (4 : Int32).toNatClampNeg (vp_nar .byte ((a1 >>> (24 &&& 31)).toInt8.toInt32))) (5 : Int32).toNatClampNeg (vp_nar .byte ((a1 >>> (16 &&& 31)).toInt8.toInt32)))) := (up_ne e11 (by decide) u9)
  refine xbast E hs hQ 1 (by decide) c_14 (vp_in_lit 6 1200 (by decide)) dX11_putNumber_29 (fun H locs S15 e15 hQ => ?_)
  have u15 : S15 1 = .inl (g.2 1, 1200, .inl (upd (upd (upd f1 (4 : Int32).toNatClampNeg (vp_nar .byte ((a1 >>> (24 &&& 31)).toInt8.toInt32))) (5 : Int32).toNatClampNeg (vp_nar .byte ((a1 >>> (16 &&& 31)).toInt8.toInt32))) (6 : Int32).toNatClampNeg (vp_nar .byte ((a1 >>> (8 &&& 31)).toInt8.toInt32)))) := up_at e15 rfl
  refine lv_aload_n hx hb dX11_putNumber_30 rfl (lv_at hl 1 rfl) ?_
  refine lv_dup hx hb dX11_putNumber_31 rfl ?_
  have c_16 : S15 0 = .inr (11, [.ref (ad 1), .int 6, .int 0, .int (-1), .ref (ad 2), .ref (ad 20), .ref (ad 38), .ref (ad 93), .ref (ad 94), .ref (ad 95), .ref (ad 102), .ref (ad 104), .ref (ad 107), .ref (ad 111), .ref (ad 119)]) := (up_ne e15 (by decide) u11)
  refine xget E hQ 0 (by decide) c_16 rfl 1 (by decide) q517 rfl dX11_putNumber_32 ?_
  refine lv_iconst (v := 1) hx hb dX11_putNumber_35 (by decide) ?_
  refine lv_iadd hx hb dX11_putNumber_36 ?_
  refine sb_at (P := fun z => W _ _ _ _ _ _ _ _ _ _ _ _ _ _ _ (F0 _ _ _ (.int z :: _))) (show (6 : Int32) + 1 = 7 by decide) ?_
  refine xputi E hs hQ 0 (by decide) c_16 rfl 1 (by decide) q517 rfl rfl (Nat.le_of_ble_eq_true rfl) dX11_putNumber_37 (fun H locs S17 e17 hQ => ?_)
  have u17 : S17 0 = .inr (11, [.ref (ad 1), .int 7, .int 0, .int (-1), .ref (ad 2), .ref (ad 20), .ref (ad 38), .ref (ad 93), .ref (ad 94), .ref (ad 95), .ref (ad 102), .ref (ad 104), .ref (ad 107), .ref (ad 111), .ref (ad 119)]) := up_at e17 rfl
  refine lv_iinc (v := 0) (lv' := [(2, .int 0), (0, .ref (ad 0)), (1, .int a1)]) hx hb dX11_putNumber_40 hl (k := 0) rfl (by decide) (by decide) rfl (fun ls hl => ?_)
  refine lv_goto (tgt := 3) hx hb dX11_putNumber_43 (by decide) ?_
  refine lv_iload_n hx hb dX11_putNumber_3 rfl (lv_at hl 0 rfl) ?_
  refine lv_if_lt (tgt := 46) hx hb dX11_putNumber_4 (by decide) (fun k_18 => absurd k_18 (by decide)) (fun k_18 => ?_)
  refine lv_aload_n hx hb dX11_putNumber_7 rfl (lv_at hl 1 rfl) ?_
  refine xget E hQ 0 (by decide) u17 rfl 1 (by decide) q517 rfl dX11_putNumber_8 ?_
  refine lv_sipush (v := 1200) hx hb dX11_putNumber_11 (by decide) ?_
  refine lv_icmp_ge (tgt := 40) hx hb dX11_putNumber_14 (by decide) (fun k_19 => absurd k_19 (by decide)) (fun k_19 => ?_)
  refine lv_aload_n hx hb dX11_putNumber_17 rfl (lv_at hl 1 rfl) ?_
  refine xget E hQ 0 (by decide) u17 rfl 0 (by decide) q516 rfl dX11_putNumber_18 ?_
  refine lv_aload_n hx hb dX11_putNumber_21 rfl (lv_at hl 1 rfl) ?_
  refine xget E hQ 0 (by decide) u17 rfl 1 (by decide) q517 rfl dX11_putNumber_22 ?_
  refine lv_iload_n hx hb dX11_putNumber_25 rfl (lv_at hl 2 rfl) ?_
  refine lv_iload_n hx hb dX11_putNumber_26 rfl (lv_at hl 0 rfl) ?_
  refine lv_ishr hx hb dX11_putNumber_27 ?_
  refine lv_i2b hx hb dX11_putNumber_28 rfl ?_
  have c_20 : S17 1 = .inl (g.2 1, 1200, .inl (upd (upd (upd f1 (4 : Int32).toNatClampNeg (vp_nar .byte ((a1 >>> (24 &&& 31)).toInt8.toInt32))) (5 : Int32).toNatClampNeg (vp_nar .byte ((a1 >>> (16 &&& 31)).toInt8.toInt32))) (6 : Int32).toNatClampNeg (vp_nar .byte ((a1 >>> (8 &&& 31)).toInt8.toInt32)))) := (up_ne e17 (by decide) u15)
  refine xbast E hs hQ 1 (by decide) c_20 (vp_in_lit 7 1200 (by decide)) dX11_putNumber_29 (fun H locs S21 e21 hQ => ?_)
  have u21 : S21 1 = .inl (g.2 1, 1200, .inl (upd (upd (upd (upd f1 (4 : Int32).toNatClampNeg (vp_nar .byte ((a1 >>> (24 &&& 31)).toInt8.toInt32))) (5 : Int32).toNatClampNeg (vp_nar .byte ((a1 >>> (16 &&& 31)).toInt8.toInt32))) (6 : Int32).toNatClampNeg (vp_nar .byte ((a1 >>> (8 &&& 31)).toInt8.toInt32))) (7 : Int32).toNatClampNeg (vp_nar .byte ((a1 >>> (0 &&& 31)).toInt8.toInt32)))) := up_at e21 rfl
  refine lv_aload_n hx hb dX11_putNumber_30 rfl (lv_at hl 1 rfl) ?_
  refine lv_dup hx hb dX11_putNumber_31 rfl ?_
  have c_22 : S21 0 = .inr (11, [.ref (ad 1), .int 7, .int 0, .int (-1), .ref (ad 2), .ref (ad 20), .ref (ad 38), .ref (ad 93), .ref (ad 94), .ref (ad 95), .ref (ad 102), .ref (ad 104), .ref (ad 107), .ref (ad 111), .ref (ad 119)]) := (up_ne e21 (by decide) u17)
  refine xget E hQ 0 (by decide) c_22 rfl 1 (by decide) q517 rfl dX11_putNumber_32 ?_
  refine lv_iconst (v := 1) hx hb dX11_putNumber_35 (by decide) ?_
  refine lv_iadd hx hb dX11_putNumber_36 ?_
  refine sb_at (P := fun z => W _ _ _ _ _ _ _ _ _ _ _ _ _ _ _ (F0 _ _ _ (.int z :: _))) (show (7 : Int32) + 1 = 8 by decide) ?_
  refine xputi E hs hQ 0 (by decide) c_22 rfl 1 (by decide) q517 rfl rfl (Nat.le_of_ble_eq_true rfl) dX11_putNumber_37 (fun H locs S23 e23 hQ => ?_)
  have u23 : S23 0 = .inr (11, [.ref (ad 1), .int 8, .int 0, .int (-1), .ref (ad 2), .ref (ad 20), .ref (ad 38), .ref (ad 93), .ref (ad 94), .ref (ad 95), .ref (ad 102), .ref (ad 104), .ref (ad 107), .ref (ad 111), .ref (ad 119)]) := up_at e23 rfl
  refine lv_iinc (v := (-8)) (lv' := [(2, .int (-8)), (0, .ref (ad 0)), (1, .int a1)]) hx hb dX11_putNumber_40 hl (k := 0) rfl (by decide) (by decide) rfl (fun ls hl => ?_)
  refine lv_goto (tgt := 3) hx hb dX11_putNumber_43 (by decide) ?_
  refine lv_iload_n hx hb dX11_putNumber_3 rfl (lv_at hl 0 rfl) ?_
  refine lv_if_lt (tgt := 46) hx hb dX11_putNumber_4 (by decide) (fun k_24 => ?_) (fun k_24 => absurd k_24 (by decide))
  have c_25 : S23 1 = .inl (g.2 1, 1200, .inl (upd (upd (upd (upd f1 (4 : Int32).toNatClampNeg (vp_nar .byte ((a1 >>> (24 &&& 31)).toInt8.toInt32))) (5 : Int32).toNatClampNeg (vp_nar .byte ((a1 >>> (16 &&& 31)).toInt8.toInt32))) (6 : Int32).toNatClampNeg (vp_nar .byte ((a1 >>> (8 &&& 31)).toInt8.toInt32))) (7 : Int32).toNatClampNeg (vp_nar .byte ((a1 >>> (0 &&& 31)).toInt8.toInt32)))) := (up_ne e23 (by decide) u21)
  exact xrv E hr hlk hQ (⟨fun j hj => (up_ne e23 (fun h => hj (by subst h; decide)) (up_ne e21 (fun h => hj (by subst h; decide)) (up_ne e17 (fun h => hj (by subst h; decide)) (up_ne e15 (fun h => hj (by subst h; decide)) (up_ne e11 (fun h => hj (by subst h; decide)) (up_ne e9 (fun h => hj (by subst h; decide)) (up_ne e5 (fun h => hj (by subst h; decide)) (up_ne e3 (fun h => hj (by subst h; decide)) rfl)))))))), ⟨_, c_25⟩, u23⟩) dX11_putNumber_46
set_option maxHeartbeats 4000000 in
set_option maxRecDepth 100000 in
theorem putNumber_8 (l : Launch) (g : GG) (ad : Nat → Nat) (hD : Dj ad 122) (S : SS) (a1 : Int32) (f1 : Nat → Int32) (h0 : S 0 = .inr (11, [.ref (ad 1), .int 8, .int 0, .int (-1), .ref (ad 2), .ref (ad 20), .ref (ad 38), .ref (ad 93), .ref (ad 94), .ref (ad 95), .ref (ad 102), .ref (ad 104), .ref (ad 107), .ref (ad 111), .ref (ad 119)])) (h1 : S 1 = .inl (g.2 1, 1200, .inl f1)) : Met l yX11_putNumber (wG (.code yX11_putNumber cX11_putNumber 3 none)) (Rm 0) (XPre g ad 122 S [.ref (ad 0), .int a1]) (va_Qv (fun S' => (∀ j, j ∉ ([1, 0] : List Nat) → S' j = S j) ∧ (∃ f : Nat → Int32, S' 1 = .inl (g.2 1, 1200, .inl f)) ∧ S' 0 = .inr (11, [.ref (ad 1), .int 12, .int 0, .int (-1), .ref (ad 2), .ref (ad 20), .ref (ad 38), .ref (ad 93), .ref (ad 94), .ref (ad 95), .ref (ad 102), .ref (ad 104), .ref (ad 107), .ref (ad 111), .ref (ad 119)])) (QB g ad 122) (FA ad 122)) 0 0 (FA ad 122) := by
  refine xmet cX11_putNumber "EbbWreck" (by decide) rfl (Nat.le_of_ble_eq_true rfl) (fun p e s m below meth c E hr hlk hml hQ ls hl => ?_)
  have hx := E.1
  have hb := E.2.1
  have hs : Sp ad 122 (FA ad 122) := Sp.fa hD
  have hl : lv_has ls 3 [(0, .ref (ad 0)), (1, .int a1)] := hl
  refine lv_bipush (v := 24) hx hb dX11_putNumber_0 (by decide) ?_
  refine lv_istore_n (lv' := [(2, .int 24), (0, .ref (ad 0)), (1, .int a1)]) hx hb dX11_putNumber_2 rfl hl (by decide) rfl (fun ls hl => ?_)
  refine lv_iload_n hx hb dX11_putNumber_3 rfl (lv_at hl 0 rfl) ?_
  refine lv_if_lt (tgt := 46) hx hb dX11_putNumber_4 (by decide) (fun k_1 => absurd k_1 (by decide)) (fun k_1 => ?_)
  refine lv_aload_n hx hb dX11_putNumber_7 rfl (lv_at hl 1 rfl) ?_
  refine xget E hQ 0 (by decide) h0 rfl 1 (by decide) q517 rfl dX11_putNumber_8 ?_
  refine lv_sipush (v := 1200) hx hb dX11_putNumber_11 (by decide) ?_
  refine lv_icmp_ge (tgt := 40) hx hb dX11_putNumber_14 (by decide) (fun k_2 => absurd k_2 (by decide)) (fun k_2 => ?_)
  refine lv_aload_n hx hb dX11_putNumber_17 rfl (lv_at hl 1 rfl) ?_
  refine xget E hQ 0 (by decide) h0 rfl 0 (by decide) q516 rfl dX11_putNumber_18 ?_
  refine lv_aload_n hx hb dX11_putNumber_21 rfl (lv_at hl 1 rfl) ?_
  refine xget E hQ 0 (by decide) h0 rfl 1 (by decide) q517 rfl dX11_putNumber_22 ?_
  refine lv_iload_n hx hb dX11_putNumber_25 rfl (lv_at hl 2 rfl) ?_
  refine lv_iload_n hx hb dX11_putNumber_26 rfl (lv_at hl 0 rfl) ?_
  refine lv_ishr hx hb dX11_putNumber_27 ?_
  refine lv_i2b hx hb dX11_putNumber_28 rfl ?_
  refine xbast E hs hQ 1 (by decide) h1 (vp_in_lit 8 1200 (by decide)) dX11_putNumber_29 (fun H locs S3 e3 hQ => ?_)
  have u3 : S3 1 = .inl (g.2 1, 1200, .inl (upd f1 (8 : Int32).toNatClampNeg (vp_nar .byte ((a1 >>> (24 &&& 31)).toInt8.toInt32)))) := up_at e3 rfl
  refine lv_aload_n hx hb dX11_putNumber_30 rfl (lv_at hl 1 rfl) ?_
  refine lv_dup hx hb dX11_putNumber_31 rfl ?_
  have c_4 : S3 0 = .inr (11, [.ref (ad 1), .int 8, .int 0, .int (-1), .ref (ad 2), .ref (ad 20), .ref (ad 38), .ref (ad 93), .ref (ad 94), .ref (ad 95), .ref (ad 102), .ref (ad 104), .ref (ad 107), .ref (ad 111), .ref (ad 119)]) := (up_ne e3 (by decide) h0)
  refine xget E hQ 0 (by decide) c_4 rfl 1 (by decide) q517 rfl dX11_putNumber_32 ?_
  refine lv_iconst (v := 1) hx hb dX11_putNumber_35 (by decide) ?_
  refine lv_iadd hx hb dX11_putNumber_36 ?_
  refine sb_at (P := fun z => W _ _ _ _ _ _ _ _ _ _ _ _ _ _ _ (F0 _ _ _ (.int z :: _))) (show (8 : Int32) + 1 = 9 by decide) ?_
  refine xputi E hs hQ 0 (by decide) c_4 rfl 1 (by decide) q517 rfl rfl (Nat.le_of_ble_eq_true rfl) dX11_putNumber_37 (fun H locs S5 e5 hQ => ?_)
  have u5 : S5 0 = .inr (11, [.ref (ad 1), .int 9, .int 0, .int (-1), .ref (ad 2), .ref (ad 20), .ref (ad 38), .ref (ad 93), .ref (ad 94), .ref (ad 95), .ref (ad 102), .ref (ad 104), .ref (ad 107), .ref (ad 111), .ref (ad 119)]) := up_at e5 rfl
  refine lv_iinc (v := 16) (lv' := [(2, .int 16), (0, .ref (ad 0)), (1, .int a1)]) hx hb dX11_putNumber_40 hl (k := 0) rfl (by decide) (by decide) rfl (fun ls hl => ?_)
  refine lv_goto (tgt := 3) hx hb dX11_putNumber_43 (by decide) ?_
  refine lv_iload_n hx hb dX11_putNumber_3 rfl (lv_at hl 0 rfl) ?_
  refine lv_if_lt (tgt := 46) hx hb dX11_putNumber_4 (by decide) (fun k_6 => absurd k_6 (by decide)) (fun k_6 => ?_)
  refine lv_aload_n hx hb dX11_putNumber_7 rfl (lv_at hl 1 rfl) ?_
  refine xget E hQ 0 (by decide) u5 rfl 1 (by decide) q517 rfl dX11_putNumber_8 ?_
  refine lv_sipush (v := 1200) hx hb dX11_putNumber_11 (by decide) ?_
  refine lv_icmp_ge (tgt := 40) hx hb dX11_putNumber_14 (by decide) (fun k_7 => absurd k_7 (by decide)) (fun k_7 => ?_)
  refine lv_aload_n hx hb dX11_putNumber_17 rfl (lv_at hl 1 rfl) ?_
  refine xget E hQ 0 (by decide) u5 rfl 0 (by decide) q516 rfl dX11_putNumber_18 ?_
  refine lv_aload_n hx hb dX11_putNumber_21 rfl (lv_at hl 1 rfl) ?_
  refine xget E hQ 0 (by decide) u5 rfl 1 (by decide) q517 rfl dX11_putNumber_22 ?_
  refine lv_iload_n hx hb dX11_putNumber_25 rfl (lv_at hl 2 rfl) ?_
  refine lv_iload_n hx hb dX11_putNumber_26 rfl (lv_at hl 0 rfl) ?_
  refine lv_ishr hx hb dX11_putNumber_27 ?_
  refine lv_i2b hx hb dX11_putNumber_28 rfl ?_
  have c_8 : S5 1 = .inl (g.2 1, 1200, .inl (upd f1 (8 : Int32).toNatClampNeg (vp_nar .byte ((a1 >>> (24 &&& 31)).toInt8.toInt32)))) := (up_ne e5 (by decide) u3)
  refine xbast E hs hQ 1 (by decide) c_8 (vp_in_lit 9 1200 (by decide)) dX11_putNumber_29 (fun H locs S9 e9 hQ => ?_)
  have u9 : S9 1 = .inl (g.2 1, 1200, .inl (upd (upd f1 (8 : Int32).toNatClampNeg (vp_nar .byte ((a1 >>> (24 &&& 31)).toInt8.toInt32))) (9 : Int32).toNatClampNeg (vp_nar .byte ((a1 >>> (16 &&& 31)).toInt8.toInt32)))) := up_at e9 rfl
  refine lv_aload_n hx hb dX11_putNumber_30 rfl (lv_at hl 1 rfl) ?_
  refine lv_dup hx hb dX11_putNumber_31 rfl ?_
  have c_10 : S9 0 = .inr (11, [.ref (ad 1), .int 9, .int 0, .int (-1), .ref (ad 2), .ref (ad 20), .ref (ad 38), .ref (ad 93), .ref (ad 94), .ref (ad 95), .ref (ad 102), .ref (ad 104), .ref (ad 107), .ref (ad 111), .ref (ad 119)]) := (up_ne e9 (by decide) u5)
  refine xget E hQ 0 (by decide) c_10 rfl 1 (by decide) q517 rfl dX11_putNumber_32 ?_
  refine lv_iconst (v := 1) hx hb dX11_putNumber_35 (by decide) ?_
  refine lv_iadd hx hb dX11_putNumber_36 ?_
  refine sb_at (P := fun z => W _ _ _ _ _ _ _ _ _ _ _ _ _ _ _ (F0 _ _ _ (.int z :: _))) (show (9 : Int32) + 1 = 10 by decide) ?_
  refine xputi E hs hQ 0 (by decide) c_10 rfl 1 (by decide) q517 rfl rfl (Nat.le_of_ble_eq_true rfl) dX11_putNumber_37 (fun H locs S11 e11 hQ => ?_)
  have u11 : S11 0 = .inr (11, [.ref (ad 1), .int 10, .int 0, .int (-1), .ref (ad 2), .ref (ad 20), .ref (ad 38), .ref (ad 93), .ref (ad 94), .ref (ad 95), .ref (ad 102), .ref (ad 104), .ref (ad 107), .ref (ad 111), .ref (ad 119)]) := up_at e11 rfl
  refine lv_iinc (v := 8) (lv' := [(2, .int 8), (0, .ref (ad 0)), (1, .int a1)]) hx hb dX11_putNumber_40 hl (k := 0) rfl (by decide) (by decide) rfl (fun ls hl => ?_)
  refine lv_goto (tgt := 3) hx hb dX11_putNumber_43 (by decide) ?_
  refine lv_iload_n hx hb dX11_putNumber_3 rfl (lv_at hl 0 rfl) ?_
  refine lv_if_lt (tgt := 46) hx hb dX11_putNumber_4 (by decide) (fun k_12 => absurd k_12 (by decide)) (fun k_12 => ?_)
  refine lv_aload_n hx hb dX11_putNumber_7 rfl (lv_at hl 1 rfl) ?_
  refine xget E hQ 0 (by decide) u11 rfl 1 (by decide) q517 rfl dX11_putNumber_8 ?_
  refine lv_sipush (v := 1200) hx hb dX11_putNumber_11 (by decide) ?_
  refine lv_icmp_ge (tgt := 40) hx hb dX11_putNumber_14 (by decide) (fun k_13 => absurd k_13 (by decide)) (fun k_13 => ?_)
  refine lv_aload_n hx hb dX11_putNumber_17 rfl (lv_at hl 1 rfl) ?_
  refine xget E hQ 0 (by decide) u11 rfl 0 (by decide) q516 rfl dX11_putNumber_18 ?_
  refine lv_aload_n hx hb dX11_putNumber_21 rfl (lv_at hl 1 rfl) ?_
  refine xget E hQ 0 (by decide) u11 rfl 1 (by decide) q517 rfl dX11_putNumber_22 ?_
  refine lv_iload_n hx hb dX11_putNumber_25 rfl (lv_at hl 2 rfl) ?_
  refine lv_iload_n hx hb dX11_putNumber_26 rfl (lv_at hl 0 rfl) ?_
  refine lv_ishr hx hb dX11_putNumber_27 ?_
  refine lv_i2b hx hb dX11_putNumber_28 rfl ?_
  have c_14 : S11 1 = .inl (g.2 1, 1200, .inl (upd (upd f1 (8 : Int32).toNatClampNeg (vp_nar .byte ((a1 >>> (24 &&& 31)).toInt8.toInt32))) (9 : Int32).toNatClampNeg (vp_nar .byte ((a1 >>> (16 &&& 31)).toInt8.toInt32)))) := (up_ne e11 (by decide) u9)
  refine xbast E hs hQ 1 (by decide) c_14 (vp_in_lit 10 1200 (by decide)) dX11_putNumber_29 (fun H locs S15 e15 hQ => ?_)
  have u15 : S15 1 = .inl (g.2 1, 1200, .inl (upd (upd (upd f1 (8 : Int32).toNatClampNeg (vp_nar .byte ((a1 >>> (24 &&& 31)).toInt8.toInt32))) (9 : Int32).toNatClampNeg (vp_nar .byte ((a1 >>> (16 &&& 31)).toInt8.toInt32))) (10 : Int32).toNatClampNeg (vp_nar .byte ((a1 >>> (8 &&& 31)).toInt8.toInt32)))) := up_at e15 rfl
  refine lv_aload_n hx hb dX11_putNumber_30 rfl (lv_at hl 1 rfl) ?_
  refine lv_dup hx hb dX11_putNumber_31 rfl ?_
  have c_16 : S15 0 = .inr (11, [.ref (ad 1), .int 10, .int 0, .int (-1), .ref (ad 2), .ref (ad 20), .ref (ad 38), .ref (ad 93), .ref (ad 94), .ref (ad 95), .ref (ad 102), .ref (ad 104), .ref (ad 107), .ref (ad 111), .ref (ad 119)]) := (up_ne e15 (by decide) u11)
  refine xget E hQ 0 (by decide) c_16 rfl 1 (by decide) q517 rfl dX11_putNumber_32 ?_
  refine lv_iconst (v := 1) hx hb dX11_putNumber_35 (by decide) ?_
  refine lv_iadd hx hb dX11_putNumber_36 ?_
  refine sb_at (P := fun z => W _ _ _ _ _ _ _ _ _ _ _ _ _ _ _ (F0 _ _ _ (.int z :: _))) (show (10 : Int32) + 1 = 11 by decide) ?_
  refine xputi E hs hQ 0 (by decide) c_16 rfl 1 (by decide) q517 rfl rfl (Nat.le_of_ble_eq_true rfl) dX11_putNumber_37 (fun H locs S17 e17 hQ => ?_)
  have u17 : S17 0 = .inr (11, [.ref (ad 1), .int 11, .int 0, .int (-1), .ref (ad 2), .ref (ad 20), .ref (ad 38), .ref (ad 93), .ref (ad 94), .ref (ad 95), .ref (ad 102), .ref (ad 104), .ref (ad 107), .ref (ad 111), .ref (ad 119)]) := up_at e17 rfl
  refine lv_iinc (v := 0) (lv' := [(2, .int 0), (0, .ref (ad 0)), (1, .int a1)]) hx hb dX11_putNumber_40 hl (k := 0) rfl (by decide) (by decide) rfl (fun ls hl => ?_)
  refine lv_goto (tgt := 3) hx hb dX11_putNumber_43 (by decide) ?_
  refine lv_iload_n hx hb dX11_putNumber_3 rfl (lv_at hl 0 rfl) ?_
  refine lv_if_lt (tgt := 46) hx hb dX11_putNumber_4 (by decide) (fun k_18 => absurd k_18 (by decide)) (fun k_18 => ?_)
  refine lv_aload_n hx hb dX11_putNumber_7 rfl (lv_at hl 1 rfl) ?_
  refine xget E hQ 0 (by decide) u17 rfl 1 (by decide) q517 rfl dX11_putNumber_8 ?_
  refine lv_sipush (v := 1200) hx hb dX11_putNumber_11 (by decide) ?_
  refine lv_icmp_ge (tgt := 40) hx hb dX11_putNumber_14 (by decide) (fun k_19 => absurd k_19 (by decide)) (fun k_19 => ?_)
  refine lv_aload_n hx hb dX11_putNumber_17 rfl (lv_at hl 1 rfl) ?_
  refine xget E hQ 0 (by decide) u17 rfl 0 (by decide) q516 rfl dX11_putNumber_18 ?_
  refine lv_aload_n hx hb dX11_putNumber_21 rfl (lv_at hl 1 rfl) ?_
  refine xget E hQ 0 (by decide) u17 rfl 1 (by decide) q517 rfl dX11_putNumber_22 ?_
  refine lv_iload_n hx hb dX11_putNumber_25 rfl (lv_at hl 2 rfl) ?_
  refine lv_iload_n hx hb dX11_putNumber_26 rfl (lv_at hl 0 rfl) ?_
  refine lv_ishr hx hb dX11_putNumber_27 ?_
  refine lv_i2b hx hb dX11_putNumber_28 rfl ?_
  have c_20 : S17 1 = .inl (g.2 1, 1200, .inl (upd (upd (upd f1 (8 : Int32).toNatClampNeg (vp_nar .byte ((a1 >>> (24 &&& 31)).toInt8.toInt32))) (9 : Int32).toNatClampNeg (vp_nar .byte ((a1 >>> (16 &&& 31)).toInt8.toInt32))) (10 : Int32).toNatClampNeg (vp_nar .byte ((a1 >>> (8 &&& 31)).toInt8.toInt32)))) := (up_ne e17 (by decide) u15)
  refine xbast E hs hQ 1 (by decide) c_20 (vp_in_lit 11 1200 (by decide)) dX11_putNumber_29 (fun H locs S21 e21 hQ => ?_)
  have u21 : S21 1 = .inl (g.2 1, 1200, .inl (upd (upd (upd (upd f1 (8 : Int32).toNatClampNeg (vp_nar .byte ((a1 >>> (24 &&& 31)).toInt8.toInt32))) (9 : Int32).toNatClampNeg (vp_nar .byte ((a1 >>> (16 &&& 31)).toInt8.toInt32))) (10 : Int32).toNatClampNeg (vp_nar .byte ((a1 >>> (8 &&& 31)).toInt8.toInt32))) (11 : Int32).toNatClampNeg (vp_nar .byte ((a1 >>> (0 &&& 31)).toInt8.toInt32)))) := up_at e21 rfl
  refine lv_aload_n hx hb dX11_putNumber_30 rfl (lv_at hl 1 rfl) ?_
  refine lv_dup hx hb dX11_putNumber_31 rfl ?_
  have c_22 : S21 0 = .inr (11, [.ref (ad 1), .int 11, .int 0, .int (-1), .ref (ad 2), .ref (ad 20), .ref (ad 38), .ref (ad 93), .ref (ad 94), .ref (ad 95), .ref (ad 102), .ref (ad 104), .ref (ad 107), .ref (ad 111), .ref (ad 119)]) := (up_ne e21 (by decide) u17)
  refine xget E hQ 0 (by decide) c_22 rfl 1 (by decide) q517 rfl dX11_putNumber_32 ?_
  refine lv_iconst (v := 1) hx hb dX11_putNumber_35 (by decide) ?_
  refine lv_iadd hx hb dX11_putNumber_36 ?_
  refine sb_at (P := fun z => W _ _ _ _ _ _ _ _ _ _ _ _ _ _ _ (F0 _ _ _ (.int z :: _))) (show (11 : Int32) + 1 = 12 by decide) ?_
  refine xputi E hs hQ 0 (by decide) c_22 rfl 1 (by decide) q517 rfl rfl (Nat.le_of_ble_eq_true rfl) dX11_putNumber_37 (fun H locs S23 e23 hQ => ?_)
  have u23 : S23 0 = .inr (11, [.ref (ad 1), .int 12, .int 0, .int (-1), .ref (ad 2), .ref (ad 20), .ref (ad 38), .ref (ad 93), .ref (ad 94), .ref (ad 95), .ref (ad 102), .ref (ad 104), .ref (ad 107), .ref (ad 111), .ref (ad 119)]) := up_at e23 rfl
  refine lv_iinc (v := (-8)) (lv' := [(2, .int (-8)), (0, .ref (ad 0)), (1, .int a1)]) hx hb dX11_putNumber_40 hl (k := 0) rfl (by decide) (by decide) rfl (fun ls hl => ?_)
  refine lv_goto (tgt := 3) hx hb dX11_putNumber_43 (by decide) ?_
  refine lv_iload_n hx hb dX11_putNumber_3 rfl (lv_at hl 0 rfl) ?_
  refine lv_if_lt (tgt := 46) hx hb dX11_putNumber_4 (by decide) (fun k_24 => ?_) (fun k_24 => absurd k_24 (by decide))
  have c_25 : S23 1 = .inl (g.2 1, 1200, .inl (upd (upd (upd (upd f1 (8 : Int32).toNatClampNeg (vp_nar .byte ((a1 >>> (24 &&& 31)).toInt8.toInt32))) (9 : Int32).toNatClampNeg (vp_nar .byte ((a1 >>> (16 &&& 31)).toInt8.toInt32))) (10 : Int32).toNatClampNeg (vp_nar .byte ((a1 >>> (8 &&& 31)).toInt8.toInt32))) (11 : Int32).toNatClampNeg (vp_nar .byte ((a1 >>> (0 &&& 31)).toInt8.toInt32)))) := (up_ne e23 (by decide) u21)
  exact xrv E hr hlk hQ (⟨fun j hj => (up_ne e23 (fun h => hj (by subst h; decide)) (up_ne e21 (fun h => hj (by subst h; decide)) (up_ne e17 (fun h => hj (by subst h; decide)) (up_ne e15 (fun h => hj (by subst h; decide)) (up_ne e11 (fun h => hj (by subst h; decide)) (up_ne e9 (fun h => hj (by subst h; decide)) (up_ne e5 (fun h => hj (by subst h; decide)) (up_ne e3 (fun h => hj (by subst h; decide)) rfl)))))))), ⟨_, c_25⟩, u23⟩) dX11_putNumber_46
set_option maxHeartbeats 4000000 in
set_option maxRecDepth 100000 in
theorem putNumber_12 (l : Launch) (g : GG) (ad : Nat → Nat) (hD : Dj ad 122) (S : SS) (a1 : Int32) (f1 : Nat → Int32) (h0 : S 0 = .inr (11, [.ref (ad 1), .int 12, .int 0, .int (-1), .ref (ad 2), .ref (ad 20), .ref (ad 38), .ref (ad 93), .ref (ad 94), .ref (ad 95), .ref (ad 102), .ref (ad 104), .ref (ad 107), .ref (ad 111), .ref (ad 119)])) (h1 : S 1 = .inl (g.2 1, 1200, .inl f1)) : Met l yX11_putNumber (wG (.code yX11_putNumber cX11_putNumber 3 none)) (Rm 0) (XPre g ad 122 S [.ref (ad 0), .int a1]) (va_Qv (fun S' => (∀ j, j ∉ ([1, 0] : List Nat) → S' j = S j) ∧ (∃ f : Nat → Int32, S' 1 = .inl (g.2 1, 1200, .inl f)) ∧ S' 0 = .inr (11, [.ref (ad 1), .int 16, .int 0, .int (-1), .ref (ad 2), .ref (ad 20), .ref (ad 38), .ref (ad 93), .ref (ad 94), .ref (ad 95), .ref (ad 102), .ref (ad 104), .ref (ad 107), .ref (ad 111), .ref (ad 119)])) (QB g ad 122) (FA ad 122)) 0 0 (FA ad 122) := by
  refine xmet cX11_putNumber "EbbWreck" (by decide) rfl (Nat.le_of_ble_eq_true rfl) (fun p e s m below meth c E hr hlk hml hQ ls hl => ?_)
  have hx := E.1
  have hb := E.2.1
  have hs : Sp ad 122 (FA ad 122) := Sp.fa hD
  have hl : lv_has ls 3 [(0, .ref (ad 0)), (1, .int a1)] := hl
  refine lv_bipush (v := 24) hx hb dX11_putNumber_0 (by decide) ?_
  refine lv_istore_n (lv' := [(2, .int 24), (0, .ref (ad 0)), (1, .int a1)]) hx hb dX11_putNumber_2 rfl hl (by decide) rfl (fun ls hl => ?_)
  refine lv_iload_n hx hb dX11_putNumber_3 rfl (lv_at hl 0 rfl) ?_
  refine lv_if_lt (tgt := 46) hx hb dX11_putNumber_4 (by decide) (fun k_1 => absurd k_1 (by decide)) (fun k_1 => ?_)
  refine lv_aload_n hx hb dX11_putNumber_7 rfl (lv_at hl 1 rfl) ?_
  refine xget E hQ 0 (by decide) h0 rfl 1 (by decide) q517 rfl dX11_putNumber_8 ?_
  refine lv_sipush (v := 1200) hx hb dX11_putNumber_11 (by decide) ?_
  refine lv_icmp_ge (tgt := 40) hx hb dX11_putNumber_14 (by decide) (fun k_2 => absurd k_2 (by decide)) (fun k_2 => ?_)
  refine lv_aload_n hx hb dX11_putNumber_17 rfl (lv_at hl 1 rfl) ?_
  refine xget E hQ 0 (by decide) h0 rfl 0 (by decide) q516 rfl dX11_putNumber_18 ?_
  refine lv_aload_n hx hb dX11_putNumber_21 rfl (lv_at hl 1 rfl) ?_
  refine xget E hQ 0 (by decide) h0 rfl 1 (by decide) q517 rfl dX11_putNumber_22 ?_
  refine lv_iload_n hx hb dX11_putNumber_25 rfl (lv_at hl 2 rfl) ?_
  refine lv_iload_n hx hb dX11_putNumber_26 rfl (lv_at hl 0 rfl) ?_
  refine lv_ishr hx hb dX11_putNumber_27 ?_
  refine lv_i2b hx hb dX11_putNumber_28 rfl ?_
  refine xbast E hs hQ 1 (by decide) h1 (vp_in_lit 12 1200 (by decide)) dX11_putNumber_29 (fun H locs S3 e3 hQ => ?_)
  have u3 : S3 1 = .inl (g.2 1, 1200, .inl (upd f1 (12 : Int32).toNatClampNeg (vp_nar .byte ((a1 >>> (24 &&& 31)).toInt8.toInt32)))) := up_at e3 rfl
  refine lv_aload_n hx hb dX11_putNumber_30 rfl (lv_at hl 1 rfl) ?_
  refine lv_dup hx hb dX11_putNumber_31 rfl ?_
  have c_4 : S3 0 = .inr (11, [.ref (ad 1), .int 12, .int 0, .int (-1), .ref (ad 2), .ref (ad 20), .ref (ad 38), .ref (ad 93), .ref (ad 94), .ref (ad 95), .ref (ad 102), .ref (ad 104), .ref (ad 107), .ref (ad 111), .ref (ad 119)]) := (up_ne e3 (by decide) h0)
  refine xget E hQ 0 (by decide) c_4 rfl 1 (by decide) q517 rfl dX11_putNumber_32 ?_
  refine lv_iconst (v := 1) hx hb dX11_putNumber_35 (by decide) ?_
  refine lv_iadd hx hb dX11_putNumber_36 ?_
  refine sb_at (P := fun z => W _ _ _ _ _ _ _ _ _ _ _ _ _ _ _ (F0 _ _ _ (.int z :: _))) (show (12 : Int32) + 1 = 13 by decide) ?_
  refine xputi E hs hQ 0 (by decide) c_4 rfl 1 (by decide) q517 rfl rfl (Nat.le_of_ble_eq_true rfl) dX11_putNumber_37 (fun H locs S5 e5 hQ => ?_)
  have u5 : S5 0 = .inr (11, [.ref (ad 1), .int 13, .int 0, .int (-1), .ref (ad 2), .ref (ad 20), .ref (ad 38), .ref (ad 93), .ref (ad 94), .ref (ad 95), .ref (ad 102), .ref (ad 104), .ref (ad 107), .ref (ad 111), .ref (ad 119)]) := up_at e5 rfl
  refine lv_iinc (v := 16) (lv' := [(2, .int 16), (0, .ref (ad 0)), (1, .int a1)]) hx hb dX11_putNumber_40 hl (k := 0) rfl (by decide) (by decide) rfl (fun ls hl => ?_)
  refine lv_goto (tgt := 3) hx hb dX11_putNumber_43 (by decide) ?_
  refine lv_iload_n hx hb dX11_putNumber_3 rfl (lv_at hl 0 rfl) ?_
  refine lv_if_lt (tgt := 46) hx hb dX11_putNumber_4 (by decide) (fun k_6 => absurd k_6 (by decide)) (fun k_6 => ?_)
  refine lv_aload_n hx hb dX11_putNumber_7 rfl (lv_at hl 1 rfl) ?_
  refine xget E hQ 0 (by decide) u5 rfl 1 (by decide) q517 rfl dX11_putNumber_8 ?_
  refine lv_sipush (v := 1200) hx hb dX11_putNumber_11 (by decide) ?_
  refine lv_icmp_ge (tgt := 40) hx hb dX11_putNumber_14 (by decide) (fun k_7 => absurd k_7 (by decide)) (fun k_7 => ?_)
  refine lv_aload_n hx hb dX11_putNumber_17 rfl (lv_at hl 1 rfl) ?_
  refine xget E hQ 0 (by decide) u5 rfl 0 (by decide) q516 rfl dX11_putNumber_18 ?_
  refine lv_aload_n hx hb dX11_putNumber_21 rfl (lv_at hl 1 rfl) ?_
  refine xget E hQ 0 (by decide) u5 rfl 1 (by decide) q517 rfl dX11_putNumber_22 ?_
  refine lv_iload_n hx hb dX11_putNumber_25 rfl (lv_at hl 2 rfl) ?_
  refine lv_iload_n hx hb dX11_putNumber_26 rfl (lv_at hl 0 rfl) ?_
  refine lv_ishr hx hb dX11_putNumber_27 ?_
  refine lv_i2b hx hb dX11_putNumber_28 rfl ?_
  have c_8 : S5 1 = .inl (g.2 1, 1200, .inl (upd f1 (12 : Int32).toNatClampNeg (vp_nar .byte ((a1 >>> (24 &&& 31)).toInt8.toInt32)))) := (up_ne e5 (by decide) u3)
  refine xbast E hs hQ 1 (by decide) c_8 (vp_in_lit 13 1200 (by decide)) dX11_putNumber_29 (fun H locs S9 e9 hQ => ?_)
  have u9 : S9 1 = .inl (g.2 1, 1200, .inl (upd (upd f1 (12 : Int32).toNatClampNeg (vp_nar .byte ((a1 >>> (24 &&& 31)).toInt8.toInt32))) (13 : Int32).toNatClampNeg (vp_nar .byte ((a1 >>> (16 &&& 31)).toInt8.toInt32)))) := up_at e9 rfl
  refine lv_aload_n hx hb dX11_putNumber_30 rfl (lv_at hl 1 rfl) ?_
  refine lv_dup hx hb dX11_putNumber_31 rfl ?_
  have c_10 : S9 0 = .inr (11, [.ref (ad 1), .int 13, .int 0, .int (-1), .ref (ad 2), .ref (ad 20), .ref (ad 38), .ref (ad 93), .ref (ad 94), .ref (ad 95), .ref (ad 102), .ref (ad 104), .ref (ad 107), .ref (ad 111), .ref (ad 119)]) := (up_ne e9 (by decide) u5)
  refine xget E hQ 0 (by decide) c_10 rfl 1 (by decide) q517 rfl dX11_putNumber_32 ?_
  refine lv_iconst (v := 1) hx hb dX11_putNumber_35 (by decide) ?_
  refine lv_iadd hx hb dX11_putNumber_36 ?_
  refine sb_at (P := fun z => W _ _ _ _ _ _ _ _ _ _ _ _ _ _ _ (F0 _ _ _ (.int z :: _))) (show (13 : Int32) + 1 = 14 by decide) ?_
  refine xputi E hs hQ 0 (by decide) c_10 rfl 1 (by decide) q517 rfl rfl (Nat.le_of_ble_eq_true rfl) dX11_putNumber_37 (fun H locs S11 e11 hQ => ?_)
  have u11 : S11 0 = .inr (11, [.ref (ad 1), .int 14, .int 0, .int (-1), .ref (ad 2), .ref (ad 20), .ref (ad 38), .ref (ad 93), .ref (ad 94), .ref (ad 95), .ref (ad 102), .ref (ad 104), .ref (ad 107), .ref (ad 111), .ref (ad 119)]) := up_at e11 rfl
  refine lv_iinc (v := 8) (lv' := [(2, .int 8), (0, .ref (ad 0)), (1, .int a1)]) hx hb dX11_putNumber_40 hl (k := 0) rfl (by decide) (by decide) rfl (fun ls hl => ?_)
  refine lv_goto (tgt := 3) hx hb dX11_putNumber_43 (by decide) ?_
  refine lv_iload_n hx hb dX11_putNumber_3 rfl (lv_at hl 0 rfl) ?_
  refine lv_if_lt (tgt := 46) hx hb dX11_putNumber_4 (by decide) (fun k_12 => absurd k_12 (by decide)) (fun k_12 => ?_)
  refine lv_aload_n hx hb dX11_putNumber_7 rfl (lv_at hl 1 rfl) ?_
  refine xget E hQ 0 (by decide) u11 rfl 1 (by decide) q517 rfl dX11_putNumber_8 ?_
  refine lv_sipush (v := 1200) hx hb dX11_putNumber_11 (by decide) ?_
  refine lv_icmp_ge (tgt := 40) hx hb dX11_putNumber_14 (by decide) (fun k_13 => absurd k_13 (by decide)) (fun k_13 => ?_)
  refine lv_aload_n hx hb dX11_putNumber_17 rfl (lv_at hl 1 rfl) ?_
  refine xget E hQ 0 (by decide) u11 rfl 0 (by decide) q516 rfl dX11_putNumber_18 ?_
  refine lv_aload_n hx hb dX11_putNumber_21 rfl (lv_at hl 1 rfl) ?_
  refine xget E hQ 0 (by decide) u11 rfl 1 (by decide) q517 rfl dX11_putNumber_22 ?_
  refine lv_iload_n hx hb dX11_putNumber_25 rfl (lv_at hl 2 rfl) ?_
  refine lv_iload_n hx hb dX11_putNumber_26 rfl (lv_at hl 0 rfl) ?_
  refine lv_ishr hx hb dX11_putNumber_27 ?_
  refine lv_i2b hx hb dX11_putNumber_28 rfl ?_
  have c_14 : S11 1 = .inl (g.2 1, 1200, .inl (upd (upd f1 (12 : Int32).toNatClampNeg (vp_nar .byte ((a1 >>> (24 &&& 31)).toInt8.toInt32))) (13 : Int32).toNatClampNeg (vp_nar .byte ((a1 >>> (16 &&& 31)).toInt8.toInt32)))) := (up_ne e11 (by decide) u9)
  refine xbast E hs hQ 1 (by decide) c_14 (vp_in_lit 14 1200 (by decide)) dX11_putNumber_29 (fun H locs S15 e15 hQ => ?_)
  have u15 : S15 1 = .inl (g.2 1, 1200, .inl (upd (upd (upd f1 (12 : Int32).toNatClampNeg (vp_nar .byte ((a1 >>> (24 &&& 31)).toInt8.toInt32))) (13 : Int32).toNatClampNeg (vp_nar .byte ((a1 >>> (16 &&& 31)).toInt8.toInt32))) (14 : Int32).toNatClampNeg (vp_nar .byte ((a1 >>> (8 &&& 31)).toInt8.toInt32)))) := up_at e15 rfl
  refine lv_aload_n hx hb dX11_putNumber_30 rfl (lv_at hl 1 rfl) ?_
  refine lv_dup hx hb dX11_putNumber_31 rfl ?_
  have c_16 : S15 0 = .inr (11, [.ref (ad 1), .int 14, .int 0, .int (-1), .ref (ad 2), .ref (ad 20), .ref (ad 38), .ref (ad 93), .ref (ad 94), .ref (ad 95), .ref (ad 102), .ref (ad 104), .ref (ad 107), .ref (ad 111), .ref (ad 119)]) := (up_ne e15 (by decide) u11)
  refine xget E hQ 0 (by decide) c_16 rfl 1 (by decide) q517 rfl dX11_putNumber_32 ?_
  refine lv_iconst (v := 1) hx hb dX11_putNumber_35 (by decide) ?_
  refine lv_iadd hx hb dX11_putNumber_36 ?_
  refine sb_at (P := fun z => W _ _ _ _ _ _ _ _ _ _ _ _ _ _ _ (F0 _ _ _ (.int z :: _))) (show (14 : Int32) + 1 = 15 by decide) ?_
  refine xputi E hs hQ 0 (by decide) c_16 rfl 1 (by decide) q517 rfl rfl (Nat.le_of_ble_eq_true rfl) dX11_putNumber_37 (fun H locs S17 e17 hQ => ?_)
  have u17 : S17 0 = .inr (11, [.ref (ad 1), .int 15, .int 0, .int (-1), .ref (ad 2), .ref (ad 20), .ref (ad 38), .ref (ad 93), .ref (ad 94), .ref (ad 95), .ref (ad 102), .ref (ad 104), .ref (ad 107), .ref (ad 111), .ref (ad 119)]) := up_at e17 rfl
  refine lv_iinc (v := 0) (lv' := [(2, .int 0), (0, .ref (ad 0)), (1, .int a1)]) hx hb dX11_putNumber_40 hl (k := 0) rfl (by decide) (by decide) rfl (fun ls hl => ?_)
  refine lv_goto (tgt := 3) hx hb dX11_putNumber_43 (by decide) ?_
  refine lv_iload_n hx hb dX11_putNumber_3 rfl (lv_at hl 0 rfl) ?_
  refine lv_if_lt (tgt := 46) hx hb dX11_putNumber_4 (by decide) (fun k_18 => absurd k_18 (by decide)) (fun k_18 => ?_)
  refine lv_aload_n hx hb dX11_putNumber_7 rfl (lv_at hl 1 rfl) ?_
  refine xget E hQ 0 (by decide) u17 rfl 1 (by decide) q517 rfl dX11_putNumber_8 ?_
  refine lv_sipush (v := 1200) hx hb dX11_putNumber_11 (by decide) ?_
  refine lv_icmp_ge (tgt := 40) hx hb dX11_putNumber_14 (by decide) (fun k_19 => absurd k_19 (by decide)) (fun k_19 => ?_)
  refine lv_aload_n hx hb dX11_putNumber_17 rfl (lv_at hl 1 rfl) ?_
  refine xget E hQ 0 (by decide) u17 rfl 0 (by decide) q516 rfl dX11_putNumber_18 ?_
  refine lv_aload_n hx hb dX11_putNumber_21 rfl (lv_at hl 1 rfl) ?_
  refine xget E hQ 0 (by decide) u17 rfl 1 (by decide) q517 rfl dX11_putNumber_22 ?_
  refine lv_iload_n hx hb dX11_putNumber_25 rfl (lv_at hl 2 rfl) ?_
  refine lv_iload_n hx hb dX11_putNumber_26 rfl (lv_at hl 0 rfl) ?_
  refine lv_ishr hx hb dX11_putNumber_27 ?_
  refine lv_i2b hx hb dX11_putNumber_28 rfl ?_
  have c_20 : S17 1 = .inl (g.2 1, 1200, .inl (upd (upd (upd f1 (12 : Int32).toNatClampNeg (vp_nar .byte ((a1 >>> (24 &&& 31)).toInt8.toInt32))) (13 : Int32).toNatClampNeg (vp_nar .byte ((a1 >>> (16 &&& 31)).toInt8.toInt32))) (14 : Int32).toNatClampNeg (vp_nar .byte ((a1 >>> (8 &&& 31)).toInt8.toInt32)))) := (up_ne e17 (by decide) u15)
  refine xbast E hs hQ 1 (by decide) c_20 (vp_in_lit 15 1200 (by decide)) dX11_putNumber_29 (fun H locs S21 e21 hQ => ?_)
  have u21 : S21 1 = .inl (g.2 1, 1200, .inl (upd (upd (upd (upd f1 (12 : Int32).toNatClampNeg (vp_nar .byte ((a1 >>> (24 &&& 31)).toInt8.toInt32))) (13 : Int32).toNatClampNeg (vp_nar .byte ((a1 >>> (16 &&& 31)).toInt8.toInt32))) (14 : Int32).toNatClampNeg (vp_nar .byte ((a1 >>> (8 &&& 31)).toInt8.toInt32))) (15 : Int32).toNatClampNeg (vp_nar .byte ((a1 >>> (0 &&& 31)).toInt8.toInt32)))) := up_at e21 rfl
  refine lv_aload_n hx hb dX11_putNumber_30 rfl (lv_at hl 1 rfl) ?_
  refine lv_dup hx hb dX11_putNumber_31 rfl ?_
  have c_22 : S21 0 = .inr (11, [.ref (ad 1), .int 15, .int 0, .int (-1), .ref (ad 2), .ref (ad 20), .ref (ad 38), .ref (ad 93), .ref (ad 94), .ref (ad 95), .ref (ad 102), .ref (ad 104), .ref (ad 107), .ref (ad 111), .ref (ad 119)]) := (up_ne e21 (by decide) u17)
  refine xget E hQ 0 (by decide) c_22 rfl 1 (by decide) q517 rfl dX11_putNumber_32 ?_
  refine lv_iconst (v := 1) hx hb dX11_putNumber_35 (by decide) ?_
  refine lv_iadd hx hb dX11_putNumber_36 ?_
  refine sb_at (P := fun z => W _ _ _ _ _ _ _ _ _ _ _ _ _ _ _ (F0 _ _ _ (.int z :: _))) (show (15 : Int32) + 1 = 16 by decide) ?_
  refine xputi E hs hQ 0 (by decide) c_22 rfl 1 (by decide) q517 rfl rfl (Nat.le_of_ble_eq_true rfl) dX11_putNumber_37 (fun H locs S23 e23 hQ => ?_)
  have u23 : S23 0 = .inr (11, [.ref (ad 1), .int 16, .int 0, .int (-1), .ref (ad 2), .ref (ad 20), .ref (ad 38), .ref (ad 93), .ref (ad 94), .ref (ad 95), .ref (ad 102), .ref (ad 104), .ref (ad 107), .ref (ad 111), .ref (ad 119)]) := up_at e23 rfl
  refine lv_iinc (v := (-8)) (lv' := [(2, .int (-8)), (0, .ref (ad 0)), (1, .int a1)]) hx hb dX11_putNumber_40 hl (k := 0) rfl (by decide) (by decide) rfl (fun ls hl => ?_)
  refine lv_goto (tgt := 3) hx hb dX11_putNumber_43 (by decide) ?_
  refine lv_iload_n hx hb dX11_putNumber_3 rfl (lv_at hl 0 rfl) ?_
  refine lv_if_lt (tgt := 46) hx hb dX11_putNumber_4 (by decide) (fun k_24 => ?_) (fun k_24 => absurd k_24 (by decide))
  have c_25 : S23 1 = .inl (g.2 1, 1200, .inl (upd (upd (upd (upd f1 (12 : Int32).toNatClampNeg (vp_nar .byte ((a1 >>> (24 &&& 31)).toInt8.toInt32))) (13 : Int32).toNatClampNeg (vp_nar .byte ((a1 >>> (16 &&& 31)).toInt8.toInt32))) (14 : Int32).toNatClampNeg (vp_nar .byte ((a1 >>> (8 &&& 31)).toInt8.toInt32))) (15 : Int32).toNatClampNeg (vp_nar .byte ((a1 >>> (0 &&& 31)).toInt8.toInt32)))) := (up_ne e23 (by decide) u21)
  exact xrv E hr hlk hQ (⟨fun j hj => (up_ne e23 (fun h => hj (by subst h; decide)) (up_ne e21 (fun h => hj (by subst h; decide)) (up_ne e17 (fun h => hj (by subst h; decide)) (up_ne e15 (fun h => hj (by subst h; decide)) (up_ne e11 (fun h => hj (by subst h; decide)) (up_ne e9 (fun h => hj (by subst h; decide)) (up_ne e5 (fun h => hj (by subst h; decide)) (up_ne e3 (fun h => hj (by subst h; decide)) rfl)))))))), ⟨_, c_25⟩, u23⟩) dX11_putNumber_46
set_option maxHeartbeats 4000000 in
set_option maxRecDepth 100000 in
theorem putNumber_16 (l : Launch) (g : GG) (ad : Nat → Nat) (hD : Dj ad 122) (S : SS) (a1 : Int32) (f1 : Nat → Int32) (h0 : S 0 = .inr (11, [.ref (ad 1), .int 16, .int 0, .int (-1), .ref (ad 2), .ref (ad 20), .ref (ad 38), .ref (ad 93), .ref (ad 94), .ref (ad 95), .ref (ad 102), .ref (ad 104), .ref (ad 107), .ref (ad 111), .ref (ad 119)])) (h1 : S 1 = .inl (g.2 1, 1200, .inl f1)) : Met l yX11_putNumber (wG (.code yX11_putNumber cX11_putNumber 3 none)) (Rm 0) (XPre g ad 122 S [.ref (ad 0), .int a1]) (va_Qv (fun S' => (∀ j, j ∉ ([1, 0] : List Nat) → S' j = S j) ∧ (∃ f : Nat → Int32, S' 1 = .inl (g.2 1, 1200, .inl f)) ∧ S' 0 = .inr (11, [.ref (ad 1), .int 20, .int 0, .int (-1), .ref (ad 2), .ref (ad 20), .ref (ad 38), .ref (ad 93), .ref (ad 94), .ref (ad 95), .ref (ad 102), .ref (ad 104), .ref (ad 107), .ref (ad 111), .ref (ad 119)])) (QB g ad 122) (FA ad 122)) 0 0 (FA ad 122) := by
  refine xmet cX11_putNumber "EbbWreck" (by decide) rfl (Nat.le_of_ble_eq_true rfl) (fun p e s m below meth c E hr hlk hml hQ ls hl => ?_)
  have hx := E.1
  have hb := E.2.1
  have hs : Sp ad 122 (FA ad 122) := Sp.fa hD
  have hl : lv_has ls 3 [(0, .ref (ad 0)), (1, .int a1)] := hl
  refine lv_bipush (v := 24) hx hb dX11_putNumber_0 (by decide) ?_
  refine lv_istore_n (lv' := [(2, .int 24), (0, .ref (ad 0)), (1, .int a1)]) hx hb dX11_putNumber_2 rfl hl (by decide) rfl (fun ls hl => ?_)
  refine lv_iload_n hx hb dX11_putNumber_3 rfl (lv_at hl 0 rfl) ?_
  refine lv_if_lt (tgt := 46) hx hb dX11_putNumber_4 (by decide) (fun k_1 => absurd k_1 (by decide)) (fun k_1 => ?_)
  refine lv_aload_n hx hb dX11_putNumber_7 rfl (lv_at hl 1 rfl) ?_
  refine xget E hQ 0 (by decide) h0 rfl 1 (by decide) q517 rfl dX11_putNumber_8 ?_
  refine lv_sipush (v := 1200) hx hb dX11_putNumber_11 (by decide) ?_
  refine lv_icmp_ge (tgt := 40) hx hb dX11_putNumber_14 (by decide) (fun k_2 => absurd k_2 (by decide)) (fun k_2 => ?_)
  refine lv_aload_n hx hb dX11_putNumber_17 rfl (lv_at hl 1 rfl) ?_
  refine xget E hQ 0 (by decide) h0 rfl 0 (by decide) q516 rfl dX11_putNumber_18 ?_
  refine lv_aload_n hx hb dX11_putNumber_21 rfl (lv_at hl 1 rfl) ?_
  refine xget E hQ 0 (by decide) h0 rfl 1 (by decide) q517 rfl dX11_putNumber_22 ?_
  refine lv_iload_n hx hb dX11_putNumber_25 rfl (lv_at hl 2 rfl) ?_
  refine lv_iload_n hx hb dX11_putNumber_26 rfl (lv_at hl 0 rfl) ?_
  refine lv_ishr hx hb dX11_putNumber_27 ?_
  refine lv_i2b hx hb dX11_putNumber_28 rfl ?_
  refine xbast E hs hQ 1 (by decide) h1 (vp_in_lit 16 1200 (by decide)) dX11_putNumber_29 (fun H locs S3 e3 hQ => ?_)
  have u3 : S3 1 = .inl (g.2 1, 1200, .inl (upd f1 (16 : Int32).toNatClampNeg (vp_nar .byte ((a1 >>> (24 &&& 31)).toInt8.toInt32)))) := up_at e3 rfl
  refine lv_aload_n hx hb dX11_putNumber_30 rfl (lv_at hl 1 rfl) ?_
  refine lv_dup hx hb dX11_putNumber_31 rfl ?_
  have c_4 : S3 0 = .inr (11, [.ref (ad 1), .int 16, .int 0, .int (-1), .ref (ad 2), .ref (ad 20), .ref (ad 38), .ref (ad 93), .ref (ad 94), .ref (ad 95), .ref (ad 102), .ref (ad 104), .ref (ad 107), .ref (ad 111), .ref (ad 119)]) := (up_ne e3 (by decide) h0)
  refine xget E hQ 0 (by decide) c_4 rfl 1 (by decide) q517 rfl dX11_putNumber_32 ?_
  refine lv_iconst (v := 1) hx hb dX11_putNumber_35 (by decide) ?_
  refine lv_iadd hx hb dX11_putNumber_36 ?_
  refine sb_at (P := fun z => W _ _ _ _ _ _ _ _ _ _ _ _ _ _ _ (F0 _ _ _ (.int z :: _))) (show (16 : Int32) + 1 = 17 by decide) ?_
  refine xputi E hs hQ 0 (by decide) c_4 rfl 1 (by decide) q517 rfl rfl (Nat.le_of_ble_eq_true rfl) dX11_putNumber_37 (fun H locs S5 e5 hQ => ?_)
  have u5 : S5 0 = .inr (11, [.ref (ad 1), .int 17, .int 0, .int (-1), .ref (ad 2), .ref (ad 20), .ref (ad 38), .ref (ad 93), .ref (ad 94), .ref (ad 95), .ref (ad 102), .ref (ad 104), .ref (ad 107), .ref (ad 111), .ref (ad 119)]) := up_at e5 rfl
  refine lv_iinc (v := 16) (lv' := [(2, .int 16), (0, .ref (ad 0)), (1, .int a1)]) hx hb dX11_putNumber_40 hl (k := 0) rfl (by decide) (by decide) rfl (fun ls hl => ?_)
  refine lv_goto (tgt := 3) hx hb dX11_putNumber_43 (by decide) ?_
  refine lv_iload_n hx hb dX11_putNumber_3 rfl (lv_at hl 0 rfl) ?_
  refine lv_if_lt (tgt := 46) hx hb dX11_putNumber_4 (by decide) (fun k_6 => absurd k_6 (by decide)) (fun k_6 => ?_)
  refine lv_aload_n hx hb dX11_putNumber_7 rfl (lv_at hl 1 rfl) ?_
  refine xget E hQ 0 (by decide) u5 rfl 1 (by decide) q517 rfl dX11_putNumber_8 ?_
  refine lv_sipush (v := 1200) hx hb dX11_putNumber_11 (by decide) ?_
  refine lv_icmp_ge (tgt := 40) hx hb dX11_putNumber_14 (by decide) (fun k_7 => absurd k_7 (by decide)) (fun k_7 => ?_)
  refine lv_aload_n hx hb dX11_putNumber_17 rfl (lv_at hl 1 rfl) ?_
  refine xget E hQ 0 (by decide) u5 rfl 0 (by decide) q516 rfl dX11_putNumber_18 ?_
  refine lv_aload_n hx hb dX11_putNumber_21 rfl (lv_at hl 1 rfl) ?_
  refine xget E hQ 0 (by decide) u5 rfl 1 (by decide) q517 rfl dX11_putNumber_22 ?_
  refine lv_iload_n hx hb dX11_putNumber_25 rfl (lv_at hl 2 rfl) ?_
  refine lv_iload_n hx hb dX11_putNumber_26 rfl (lv_at hl 0 rfl) ?_
  refine lv_ishr hx hb dX11_putNumber_27 ?_
  refine lv_i2b hx hb dX11_putNumber_28 rfl ?_
  have c_8 : S5 1 = .inl (g.2 1, 1200, .inl (upd f1 (16 : Int32).toNatClampNeg (vp_nar .byte ((a1 >>> (24 &&& 31)).toInt8.toInt32)))) := (up_ne e5 (by decide) u3)
  refine xbast E hs hQ 1 (by decide) c_8 (vp_in_lit 17 1200 (by decide)) dX11_putNumber_29 (fun H locs S9 e9 hQ => ?_)
  have u9 : S9 1 = .inl (g.2 1, 1200, .inl (upd (upd f1 (16 : Int32).toNatClampNeg (vp_nar .byte ((a1 >>> (24 &&& 31)).toInt8.toInt32))) (17 : Int32).toNatClampNeg (vp_nar .byte ((a1 >>> (16 &&& 31)).toInt8.toInt32)))) := up_at e9 rfl
  refine lv_aload_n hx hb dX11_putNumber_30 rfl (lv_at hl 1 rfl) ?_
  refine lv_dup hx hb dX11_putNumber_31 rfl ?_
  have c_10 : S9 0 = .inr (11, [.ref (ad 1), .int 17, .int 0, .int (-1), .ref (ad 2), .ref (ad 20), .ref (ad 38), .ref (ad 93), .ref (ad 94), .ref (ad 95), .ref (ad 102), .ref (ad 104), .ref (ad 107), .ref (ad 111), .ref (ad 119)]) := (up_ne e9 (by decide) u5)
  refine xget E hQ 0 (by decide) c_10 rfl 1 (by decide) q517 rfl dX11_putNumber_32 ?_
  refine lv_iconst (v := 1) hx hb dX11_putNumber_35 (by decide) ?_
  refine lv_iadd hx hb dX11_putNumber_36 ?_
  refine sb_at (P := fun z => W _ _ _ _ _ _ _ _ _ _ _ _ _ _ _ (F0 _ _ _ (.int z :: _))) (show (17 : Int32) + 1 = 18 by decide) ?_
  refine xputi E hs hQ 0 (by decide) c_10 rfl 1 (by decide) q517 rfl rfl (Nat.le_of_ble_eq_true rfl) dX11_putNumber_37 (fun H locs S11 e11 hQ => ?_)
  have u11 : S11 0 = .inr (11, [.ref (ad 1), .int 18, .int 0, .int (-1), .ref (ad 2), .ref (ad 20), .ref (ad 38), .ref (ad 93), .ref (ad 94), .ref (ad 95), .ref (ad 102), .ref (ad 104), .ref (ad 107), .ref (ad 111), .ref (ad 119)]) := up_at e11 rfl
  refine lv_iinc (v := 8) (lv' := [(2, .int 8), (0, .ref (ad 0)), (1, .int a1)]) hx hb dX11_putNumber_40 hl (k := 0) rfl (by decide) (by decide) rfl (fun ls hl => ?_)
  refine lv_goto (tgt := 3) hx hb dX11_putNumber_43 (by decide) ?_
  refine lv_iload_n hx hb dX11_putNumber_3 rfl (lv_at hl 0 rfl) ?_
  refine lv_if_lt (tgt := 46) hx hb dX11_putNumber_4 (by decide) (fun k_12 => absurd k_12 (by decide)) (fun k_12 => ?_)
  refine lv_aload_n hx hb dX11_putNumber_7 rfl (lv_at hl 1 rfl) ?_
  refine xget E hQ 0 (by decide) u11 rfl 1 (by decide) q517 rfl dX11_putNumber_8 ?_
  refine lv_sipush (v := 1200) hx hb dX11_putNumber_11 (by decide) ?_
  refine lv_icmp_ge (tgt := 40) hx hb dX11_putNumber_14 (by decide) (fun k_13 => absurd k_13 (by decide)) (fun k_13 => ?_)
  refine lv_aload_n hx hb dX11_putNumber_17 rfl (lv_at hl 1 rfl) ?_
  refine xget E hQ 0 (by decide) u11 rfl 0 (by decide) q516 rfl dX11_putNumber_18 ?_
  refine lv_aload_n hx hb dX11_putNumber_21 rfl (lv_at hl 1 rfl) ?_
  refine xget E hQ 0 (by decide) u11 rfl 1 (by decide) q517 rfl dX11_putNumber_22 ?_
  refine lv_iload_n hx hb dX11_putNumber_25 rfl (lv_at hl 2 rfl) ?_
  refine lv_iload_n hx hb dX11_putNumber_26 rfl (lv_at hl 0 rfl) ?_
  refine lv_ishr hx hb dX11_putNumber_27 ?_
  refine lv_i2b hx hb dX11_putNumber_28 rfl ?_
  have c_14 : S11 1 = .inl (g.2 1, 1200, .inl (upd (upd f1 (16 : Int32).toNatClampNeg (vp_nar .byte ((a1 >>> (24 &&& 31)).toInt8.toInt32))) (17 : Int32).toNatClampNeg (vp_nar .byte ((a1 >>> (16 &&& 31)).toInt8.toInt32)))) := (up_ne e11 (by decide) u9)
  refine xbast E hs hQ 1 (by decide) c_14 (vp_in_lit 18 1200 (by decide)) dX11_putNumber_29 (fun H locs S15 e15 hQ => ?_)
  have u15 : S15 1 = .inl (g.2 1, 1200, .inl (upd (upd (upd f1 (16 : Int32).toNatClampNeg (vp_nar .byte ((a1 >>> (24 &&& 31)).toInt8.toInt32))) (17 : Int32).toNatClampNeg (vp_nar .byte ((a1 >>> (16 &&& 31)).toInt8.toInt32))) (18 : Int32).toNatClampNeg (vp_nar .byte ((a1 >>> (8 &&& 31)).toInt8.toInt32)))) := up_at e15 rfl
  refine lv_aload_n hx hb dX11_putNumber_30 rfl (lv_at hl 1 rfl) ?_
  refine lv_dup hx hb dX11_putNumber_31 rfl ?_
  have c_16 : S15 0 = .inr (11, [.ref (ad 1), .int 18, .int 0, .int (-1), .ref (ad 2), .ref (ad 20), .ref (ad 38), .ref (ad 93), .ref (ad 94), .ref (ad 95), .ref (ad 102), .ref (ad 104), .ref (ad 107), .ref (ad 111), .ref (ad 119)]) := (up_ne e15 (by decide) u11)
  refine xget E hQ 0 (by decide) c_16 rfl 1 (by decide) q517 rfl dX11_putNumber_32 ?_
  refine lv_iconst (v := 1) hx hb dX11_putNumber_35 (by decide) ?_
  refine lv_iadd hx hb dX11_putNumber_36 ?_
  refine sb_at (P := fun z => W _ _ _ _ _ _ _ _ _ _ _ _ _ _ _ (F0 _ _ _ (.int z :: _))) (show (18 : Int32) + 1 = 19 by decide) ?_
  refine xputi E hs hQ 0 (by decide) c_16 rfl 1 (by decide) q517 rfl rfl (Nat.le_of_ble_eq_true rfl) dX11_putNumber_37 (fun H locs S17 e17 hQ => ?_)
  have u17 : S17 0 = .inr (11, [.ref (ad 1), .int 19, .int 0, .int (-1), .ref (ad 2), .ref (ad 20), .ref (ad 38), .ref (ad 93), .ref (ad 94), .ref (ad 95), .ref (ad 102), .ref (ad 104), .ref (ad 107), .ref (ad 111), .ref (ad 119)]) := up_at e17 rfl
  refine lv_iinc (v := 0) (lv' := [(2, .int 0), (0, .ref (ad 0)), (1, .int a1)]) hx hb dX11_putNumber_40 hl (k := 0) rfl (by decide) (by decide) rfl (fun ls hl => ?_)
  refine lv_goto (tgt := 3) hx hb dX11_putNumber_43 (by decide) ?_
  refine lv_iload_n hx hb dX11_putNumber_3 rfl (lv_at hl 0 rfl) ?_
  refine lv_if_lt (tgt := 46) hx hb dX11_putNumber_4 (by decide) (fun k_18 => absurd k_18 (by decide)) (fun k_18 => ?_)
  refine lv_aload_n hx hb dX11_putNumber_7 rfl (lv_at hl 1 rfl) ?_
  refine xget E hQ 0 (by decide) u17 rfl 1 (by decide) q517 rfl dX11_putNumber_8 ?_
  refine lv_sipush (v := 1200) hx hb dX11_putNumber_11 (by decide) ?_
  refine lv_icmp_ge (tgt := 40) hx hb dX11_putNumber_14 (by decide) (fun k_19 => absurd k_19 (by decide)) (fun k_19 => ?_)
  refine lv_aload_n hx hb dX11_putNumber_17 rfl (lv_at hl 1 rfl) ?_
  refine xget E hQ 0 (by decide) u17 rfl 0 (by decide) q516 rfl dX11_putNumber_18 ?_
  refine lv_aload_n hx hb dX11_putNumber_21 rfl (lv_at hl 1 rfl) ?_
  refine xget E hQ 0 (by decide) u17 rfl 1 (by decide) q517 rfl dX11_putNumber_22 ?_
  refine lv_iload_n hx hb dX11_putNumber_25 rfl (lv_at hl 2 rfl) ?_
  refine lv_iload_n hx hb dX11_putNumber_26 rfl (lv_at hl 0 rfl) ?_
  refine lv_ishr hx hb dX11_putNumber_27 ?_
  refine lv_i2b hx hb dX11_putNumber_28 rfl ?_
  have c_20 : S17 1 = .inl (g.2 1, 1200, .inl (upd (upd (upd f1 (16 : Int32).toNatClampNeg (vp_nar .byte ((a1 >>> (24 &&& 31)).toInt8.toInt32))) (17 : Int32).toNatClampNeg (vp_nar .byte ((a1 >>> (16 &&& 31)).toInt8.toInt32))) (18 : Int32).toNatClampNeg (vp_nar .byte ((a1 >>> (8 &&& 31)).toInt8.toInt32)))) := (up_ne e17 (by decide) u15)
  refine xbast E hs hQ 1 (by decide) c_20 (vp_in_lit 19 1200 (by decide)) dX11_putNumber_29 (fun H locs S21 e21 hQ => ?_)
  have u21 : S21 1 = .inl (g.2 1, 1200, .inl (upd (upd (upd (upd f1 (16 : Int32).toNatClampNeg (vp_nar .byte ((a1 >>> (24 &&& 31)).toInt8.toInt32))) (17 : Int32).toNatClampNeg (vp_nar .byte ((a1 >>> (16 &&& 31)).toInt8.toInt32))) (18 : Int32).toNatClampNeg (vp_nar .byte ((a1 >>> (8 &&& 31)).toInt8.toInt32))) (19 : Int32).toNatClampNeg (vp_nar .byte ((a1 >>> (0 &&& 31)).toInt8.toInt32)))) := up_at e21 rfl
  refine lv_aload_n hx hb dX11_putNumber_30 rfl (lv_at hl 1 rfl) ?_
  refine lv_dup hx hb dX11_putNumber_31 rfl ?_
  have c_22 : S21 0 = .inr (11, [.ref (ad 1), .int 19, .int 0, .int (-1), .ref (ad 2), .ref (ad 20), .ref (ad 38), .ref (ad 93), .ref (ad 94), .ref (ad 95), .ref (ad 102), .ref (ad 104), .ref (ad 107), .ref (ad 111), .ref (ad 119)]) := (up_ne e21 (by decide) u17)
  refine xget E hQ 0 (by decide) c_22 rfl 1 (by decide) q517 rfl dX11_putNumber_32 ?_
  refine lv_iconst (v := 1) hx hb dX11_putNumber_35 (by decide) ?_
  refine lv_iadd hx hb dX11_putNumber_36 ?_
  refine sb_at (P := fun z => W _ _ _ _ _ _ _ _ _ _ _ _ _ _ _ (F0 _ _ _ (.int z :: _))) (show (19 : Int32) + 1 = 20 by decide) ?_
  refine xputi E hs hQ 0 (by decide) c_22 rfl 1 (by decide) q517 rfl rfl (Nat.le_of_ble_eq_true rfl) dX11_putNumber_37 (fun H locs S23 e23 hQ => ?_)
  have u23 : S23 0 = .inr (11, [.ref (ad 1), .int 20, .int 0, .int (-1), .ref (ad 2), .ref (ad 20), .ref (ad 38), .ref (ad 93), .ref (ad 94), .ref (ad 95), .ref (ad 102), .ref (ad 104), .ref (ad 107), .ref (ad 111), .ref (ad 119)]) := up_at e23 rfl
  refine lv_iinc (v := (-8)) (lv' := [(2, .int (-8)), (0, .ref (ad 0)), (1, .int a1)]) hx hb dX11_putNumber_40 hl (k := 0) rfl (by decide) (by decide) rfl (fun ls hl => ?_)
  refine lv_goto (tgt := 3) hx hb dX11_putNumber_43 (by decide) ?_
  refine lv_iload_n hx hb dX11_putNumber_3 rfl (lv_at hl 0 rfl) ?_
  refine lv_if_lt (tgt := 46) hx hb dX11_putNumber_4 (by decide) (fun k_24 => ?_) (fun k_24 => absurd k_24 (by decide))
  have c_25 : S23 1 = .inl (g.2 1, 1200, .inl (upd (upd (upd (upd f1 (16 : Int32).toNatClampNeg (vp_nar .byte ((a1 >>> (24 &&& 31)).toInt8.toInt32))) (17 : Int32).toNatClampNeg (vp_nar .byte ((a1 >>> (16 &&& 31)).toInt8.toInt32))) (18 : Int32).toNatClampNeg (vp_nar .byte ((a1 >>> (8 &&& 31)).toInt8.toInt32))) (19 : Int32).toNatClampNeg (vp_nar .byte ((a1 >>> (0 &&& 31)).toInt8.toInt32)))) := (up_ne e23 (by decide) u21)
  exact xrv E hr hlk hQ (⟨fun j hj => (up_ne e23 (fun h => hj (by subst h; decide)) (up_ne e21 (fun h => hj (by subst h; decide)) (up_ne e17 (fun h => hj (by subst h; decide)) (up_ne e15 (fun h => hj (by subst h; decide)) (up_ne e11 (fun h => hj (by subst h; decide)) (up_ne e9 (fun h => hj (by subst h; decide)) (up_ne e5 (fun h => hj (by subst h; decide)) (up_ne e3 (fun h => hj (by subst h; decide)) rfl)))))))), ⟨_, c_25⟩, u23⟩) dX11_putNumber_46
set_option maxHeartbeats 4000000 in
set_option maxRecDepth 100000 in
theorem fX11_feed (l : Launch) (g : GG) (ad : Nat → Nat) (hD : Dj ad 122) (S : SS) (a1 : Int32) (a2 : Int32) (a3 : Int32) (a4 : Int32) (a5 : Int32) (hX : ∀ i, i < 122 → S i = X0 g ad i) : Met l yX11_feed (wG (.code yX11_feed cX11_feed 6 (some .int))) (Rm 1) (XPre g ad 122 S [.ref (ad 0), .int a1, .int a2, .int a3, .int a4, .int a5]) (va_Qi (fun r _ => r = 20) (QB g ad 122) (FA ad 122)) 0 0 (FA ad 122) := by
  refine xmet cX11_feed "EbbWreck" (by decide) rfl (Nat.le_of_ble_eq_true rfl) (fun p e s m below meth c E hr hlk hml hQ ls hl => ?_)
  have hx := E.1
  have hb := E.2.1
  have hs : Sp ad 122 (FA ad 122) := Sp.fa hD
  have hl : lv_has ls 6 [(0, .ref (ad 0)), (1, .int a1), (2, .int a2), (3, .int a3), (4, .int a4), (5, .int a5)] := hl
  refine lv_aload_n hx hb dX11_feed_0 rfl (lv_at hl 0 rfl) ?_
  have c_1 : S 0 = .inr (11, [.ref (ad 1), .int 0, .int 0, .int (-1), .ref (ad 2), .ref (ad 20), .ref (ad 38), .ref (ad 93), .ref (ad 94), .ref (ad 95), .ref (ad 102), .ref (ad 104), .ref (ad 107), .ref (ad 111), .ref (ad 119)]) := (hX 0 (by decide))
  refine xget E hQ 0 (by decide) c_1 rfl 1 (by decide) q517 rfl dX11_feed_1 ?_
  refine lv_bipush (v := 20) hx hb dX11_feed_4 (by decide) ?_
  refine lv_iadd hx hb dX11_feed_6 ?_
  refine sb_at (P := fun z => W _ _ _ _ _ _ _ _ _ _ _ _ _ _ _ (F0 _ _ _ (.int z :: _))) (show (0 : Int32) + 20 = 20 by decide) ?_
  refine lv_sipush (v := 1200) hx hb dX11_feed_7 (by decide) ?_
  refine lv_icmp_le (tgt := 15) hx hb dX11_feed_10 (by decide) (fun k_2 => ?_) (fun k_2 => absurd k_2 (by decide))
  refine lv_aload_n hx hb dX11_feed_15 rfl (lv_at hl 0 rfl) ?_
  refine lv_iload_n hx hb dX11_feed_16 rfl (lv_at hl 1 rfl) ?_
  have c_3 : S 1 = .inl (g.2 1, 1200, .inl zf) := (hX 1 (by decide))
  refine xcVv E hs hQ hml hl.1 0 (putNumber_0 l g ad hD S a1 zf c_1 c_3) mX11_putNumber q566 (by decide) c_1 rfl rfl ⟨by decide, by decide⟩ ⟨by decide, by decide⟩ (Nat.le_of_ble_eq_true rfl) rfl dX11_feed_17 (fun S4 H locs hp4 hQ _ => ?_)
  obtain ⟨o4, ⟨f4_1, v4_1⟩, v4_0⟩ := hp4
  refine lv_aload_n hx hb dX11_feed_20 rfl (lv_at hl 0 rfl) ?_
  refine lv_iload_n hx hb dX11_feed_21 rfl (lv_at hl 2 rfl) ?_
  refine xcVv E hs hQ hml hl.1 0 (putNumber_4 l g ad hD S4 a2 f4_1 v4_0 v4_1) mX11_putNumber q566 (by decide) v4_0 rfl rfl ⟨by decide, by decide⟩ ⟨by decide, by decide⟩ (Nat.le_of_ble_eq_true rfl) rfl dX11_feed_22 (fun S5 H locs hp5 hQ _ => ?_)
  obtain ⟨o5, ⟨f5_1, v5_1⟩, v5_0⟩ := hp5
  refine lv_aload_n hx hb dX11_feed_25 rfl (lv_at hl 0 rfl) ?_
  refine lv_iload_n hx hb dX11_feed_26 rfl (lv_at hl 3 rfl) ?_
  refine xcVv E hs hQ hml hl.1 0 (putNumber_8 l g ad hD S5 a3 f5_1 v5_0 v5_1) mX11_putNumber q566 (by decide) v5_0 rfl rfl ⟨by decide, by decide⟩ ⟨by decide, by decide⟩ (Nat.le_of_ble_eq_true rfl) rfl dX11_feed_27 (fun S6 H locs hp6 hQ _ => ?_)
  obtain ⟨o6, ⟨f6_1, v6_1⟩, v6_0⟩ := hp6
  refine lv_aload_n hx hb dX11_feed_30 rfl (lv_at hl 0 rfl) ?_
  refine lv_iload hx hb dX11_feed_31 (lv_at hl 4 rfl) ?_
  refine xcVv E hs hQ hml hl.1 0 (putNumber_12 l g ad hD S6 a4 f6_1 v6_0 v6_1) mX11_putNumber q566 (by decide) v6_0 rfl rfl ⟨by decide, by decide⟩ ⟨by decide, by decide⟩ (Nat.le_of_ble_eq_true rfl) rfl dX11_feed_33 (fun S7 H locs hp7 hQ _ => ?_)
  obtain ⟨o7, ⟨f7_1, v7_1⟩, v7_0⟩ := hp7
  refine lv_aload_n hx hb dX11_feed_36 rfl (lv_at hl 0 rfl) ?_
  refine lv_iload hx hb dX11_feed_37 (lv_at hl 5 rfl) ?_
  refine xcVv E hs hQ hml hl.1 0 (putNumber_16 l g ad hD S7 a5 f7_1 v7_0 v7_1) mX11_putNumber q566 (by decide) v7_0 rfl rfl ⟨by decide, by decide⟩ ⟨by decide, by decide⟩ (Nat.le_of_ble_eq_true rfl) rfl dX11_feed_39 (fun S8 H locs hp8 hQ _ => ?_)
  obtain ⟨o8, ⟨f8_1, v8_1⟩, v8_0⟩ := hp8
  refine lv_aload_n hx hb dX11_feed_42 rfl (lv_at hl 0 rfl) ?_
  refine xget E hQ 0 (by decide) v8_0 rfl 1 (by decide) q517 rfl dX11_feed_43 ?_
  exact xri E hr hlk hQ (rfl) dX11_feed_46
set_option maxHeartbeats 4000000 in
set_option maxRecDepth 100000 in
theorem bitCount_0 (l : Launch) (g : GG) (ad : Nat → Nat) (hD : Dj ad 122) (S : SS) : Met l yJ6_bitCount_0f7a4 (wG (.code yJ6_bitCount_0f7a4 cJ6_bitCount_0f7a4 1 (some .int))) (Rm 0) (XPre g ad 122 S [.int 0]) (va_Qi (fun r S' => (∀ j, j ∉ ([] : List Nat) → S' j = S j) ∧ r = 0) (QB g ad 122) (FA ad 122)) 0 0 (FA ad 122) := by
  refine xmet cJ6_bitCount_0f7a4 "java/lang/Integer" (by decide) rfl (Nat.le_of_ble_eq_true rfl) (fun p e s m below meth c E hr hlk hml hQ ls hl => ?_)
  have hx := E.1
  have hb := E.2.1
  have hs : Sp ad 122 (FA ad 122) := Sp.fa hD
  have hl : lv_has ls 1 [(0, .int 0)] := hl
  refine lv_iload_n hx hb dJ6_bitCount_0f7a4_0 rfl (lv_at hl 0 rfl) ?_
  refine lv_iload_n hx hb dJ6_bitCount_0f7a4_1 rfl (lv_at hl 0 rfl) ?_
  refine lv_iconst (v := 1) hx hb dJ6_bitCount_0f7a4_2 (by decide) ?_
  refine lv_iushr (v := 0) hx hb dJ6_bitCount_0f7a4_3 (by decide) ?_
  refine lv_ldcw (v := 1431655765) hx hb E.2.2.1 (E.2.2.2.1 _ q859) dJ6_bitCount_0f7a4_4 ?_
  refine lv_iand hx hb dJ6_bitCount_0f7a4_7 ?_
  refine sb_at (P := fun z => W _ _ _ _ _ _ _ _ _ _ _ _ _ _ _ (F0 _ _ _ (.int z :: _))) (show (0 : Int32) &&& 1431655765 = 0 by decide) ?_
  refine lv_isub hx hb dJ6_bitCount_0f7a4_8 ?_
  refine sb_at (P := fun z => W _ _ _ _ _ _ _ _ _ _ _ _ _ _ _ (F0 _ _ _ (.int z :: _))) (show (0 : Int32) - 0 = 0 by decide) ?_
  refine lv_istore_n (lv' := [(0, .int 0)]) hx hb dJ6_bitCount_0f7a4_9 rfl hl (by decide) rfl (fun ls hl => ?_)
  refine lv_iload_n hx hb dJ6_bitCount_0f7a4_10 rfl (lv_at hl 0 rfl) ?_
  refine lv_ldcw (v := 858993459) hx hb E.2.2.1 (E.2.2.2.1 _ q860) dJ6_bitCount_0f7a4_11 ?_
  refine lv_iand hx hb dJ6_bitCount_0f7a4_14 ?_
  refine sb_at (P := fun z => W _ _ _ _ _ _ _ _ _ _ _ _ _ _ _ (F0 _ _ _ (.int z :: _))) (show (0 : Int32) &&& 858993459 = 0 by decide) ?_
  refine lv_iload_n hx hb dJ6_bitCount_0f7a4_15 rfl (lv_at hl 0 rfl) ?_
  refine lv_iconst (v := 2) hx hb dJ6_bitCount_0f7a4_16 (by decide) ?_
  refine lv_iushr (v := 0) hx hb dJ6_bitCount_0f7a4_17 (by decide) ?_
  refine lv_ldcw (v := 858993459) hx hb E.2.2.1 (E.2.2.2.1 _ q860) dJ6_bitCount_0f7a4_18 ?_
  refine lv_iand hx hb dJ6_bitCount_0f7a4_21 ?_
  refine sb_at (P := fun z => W _ _ _ _ _ _ _ _ _ _ _ _ _ _ _ (F0 _ _ _ (.int z :: _))) (show (0 : Int32) &&& 858993459 = 0 by decide) ?_
  refine lv_iadd hx hb dJ6_bitCount_0f7a4_22 ?_
  refine sb_at (P := fun z => W _ _ _ _ _ _ _ _ _ _ _ _ _ _ _ (F0 _ _ _ (.int z :: _))) (show (0 : Int32) + 0 = 0 by decide) ?_
  refine lv_istore_n (lv' := [(0, .int 0)]) hx hb dJ6_bitCount_0f7a4_23 rfl hl (by decide) rfl (fun ls hl => ?_)
  refine lv_iload_n hx hb dJ6_bitCount_0f7a4_24 rfl (lv_at hl 0 rfl) ?_
  refine lv_iload_n hx hb dJ6_bitCount_0f7a4_25 rfl (lv_at hl 0 rfl) ?_
  refine lv_iconst (v := 4) hx hb dJ6_bitCount_0f7a4_26 (by decide) ?_
  refine lv_iushr (v := 0) hx hb dJ6_bitCount_0f7a4_27 (by decide) ?_
  refine lv_iadd hx hb dJ6_bitCount_0f7a4_28 ?_
  refine sb_at (P := fun z => W _ _ _ _ _ _ _ _ _ _ _ _ _ _ _ (F0 _ _ _ (.int z :: _))) (show (0 : Int32) + 0 = 0 by decide) ?_
  refine lv_ldcw (v := 252645135) hx hb E.2.2.1 (E.2.2.2.1 _ q861) dJ6_bitCount_0f7a4_29 ?_
  refine lv_iand hx hb dJ6_bitCount_0f7a4_32 ?_
  refine sb_at (P := fun z => W _ _ _ _ _ _ _ _ _ _ _ _ _ _ _ (F0 _ _ _ (.int z :: _))) (show (0 : Int32) &&& 252645135 = 0 by decide) ?_
  refine lv_istore_n (lv' := [(0, .int 0)]) hx hb dJ6_bitCount_0f7a4_33 rfl hl (by decide) rfl (fun ls hl => ?_)
  refine lv_iload_n hx hb dJ6_bitCount_0f7a4_34 rfl (lv_at hl 0 rfl) ?_
  refine lv_iload_n hx hb dJ6_bitCount_0f7a4_35 rfl (lv_at hl 0 rfl) ?_
  refine lv_bipush (v := 8) hx hb dJ6_bitCount_0f7a4_36 (by decide) ?_
  refine lv_iushr (v := 0) hx hb dJ6_bitCount_0f7a4_38 (by decide) ?_
  refine lv_iadd hx hb dJ6_bitCount_0f7a4_39 ?_
  refine sb_at (P := fun z => W _ _ _ _ _ _ _ _ _ _ _ _ _ _ _ (F0 _ _ _ (.int z :: _))) (show (0 : Int32) + 0 = 0 by decide) ?_
  refine lv_istore_n (lv' := [(0, .int 0)]) hx hb dJ6_bitCount_0f7a4_40 rfl hl (by decide) rfl (fun ls hl => ?_)
  refine lv_iload_n hx hb dJ6_bitCount_0f7a4_41 rfl (lv_at hl 0 rfl) ?_
  refine lv_iload_n hx hb dJ6_bitCount_0f7a4_42 rfl (lv_at hl 0 rfl) ?_
  refine lv_bipush (v := 16) hx hb dJ6_bitCount_0f7a4_43 (by decide) ?_
  refine lv_iushr (v := 0) hx hb dJ6_bitCount_0f7a4_45 (by decide) ?_
  refine lv_iadd hx hb dJ6_bitCount_0f7a4_46 ?_
  refine sb_at (P := fun z => W _ _ _ _ _ _ _ _ _ _ _ _ _ _ _ (F0 _ _ _ (.int z :: _))) (show (0 : Int32) + 0 = 0 by decide) ?_
  refine lv_istore_n (lv' := [(0, .int 0)]) hx hb dJ6_bitCount_0f7a4_47 rfl hl (by decide) rfl (fun ls hl => ?_)
  refine lv_iload_n hx hb dJ6_bitCount_0f7a4_48 rfl (lv_at hl 0 rfl) ?_
  refine lv_bipush (v := 63) hx hb dJ6_bitCount_0f7a4_49 (by decide) ?_
  refine lv_iand hx hb dJ6_bitCount_0f7a4_51 ?_
  refine sb_at (P := fun z => W _ _ _ _ _ _ _ _ _ _ _ _ _ _ _ (F0 _ _ _ (.int z :: _))) (show (0 : Int32) &&& 63 = 0 by decide) ?_
  exact xri E hr hlk hQ (⟨fun j hj => rfl, rfl⟩) dJ6_bitCount_0f7a4_52
set_option maxHeartbeats 4000000 in
set_option maxRecDepth 100000 in
theorem fX11_count (l : Launch) (g : GG) (ad : Nat → Nat) (hD : Dj ad 122) (S : SS) (a1 : Int32) (hX : ∀ i, i < 122 → S i = X0 g ad i) : Met l yX11_count (wG (.code yX11_count cX11_count 2 (some .int))) (Rm 2) (XPre g ad 122 S [.ref (ad 0), .int a1]) (va_Qi (fun r _ => r = ansCount a1) (QB g ad 122) (FA ad 122)) 0 0 (FA ad 122) := by
  refine xmet cX11_count "EbbWreck" (by decide) rfl (Nat.le_of_ble_eq_true rfl) (fun p e s m below meth c E hr hlk hml hQ ls hl => ?_)
  have hx := E.1
  have hb := E.2.1
  have hs : Sp ad 122 (FA ad 122) := Sp.fa hD
  have hl : lv_has ls 2 [(0, .ref (ad 0)), (1, .int a1)] := hl
  refine lv_iload_n hx hb dX11_count_0 rfl (lv_at hl 1 rfl) ?_
  rcases pk_ix a1 (n := 13) (by decide) with h_lo | h_hi | ⟨j_1, h_j, h_e⟩
  · refine lv_tableOut (tgt := 187) hx hb dX11_count_1 (Or.inl (by have := tlt0 h_lo; omega)) (by decide) ?_
    refine lv_iconst (v := (-1)) hx hb dX11_count_187 (by decide) ?_
    exact xri E hr hlk hQ (by have := tlt0 h_lo; unfold ansCount; rw [if_pos (Or.inl this)]) dX11_count_188
  · refine lv_tableOut (tgt := 187) hx hb dX11_count_1 (Or.inr (by have := tge h_hi (by decide); omega)) (by decide) ?_
    refine lv_iconst (v := (-1)) hx hb dX11_count_187 (by decide) ?_
    exact xri E hr hlk hQ (by have := tge h_hi (by decide); unfold ansCount; rw [if_pos (Or.inr (by omega))]) dX11_count_188
  · rcases (show j_1 = 0 ∨ j_1 = 1 ∨ j_1 = 2 ∨ j_1 = 3 ∨ j_1 = 4 ∨ j_1 = 5 ∨ j_1 = 6 ∨ j_1 = 7 ∨ j_1 = 8 ∨ j_1 = 9 ∨ j_1 = 10 ∨ j_1 = 11 ∨ j_1 = 12 by omega) with rfl | rfl | rfl | rfl | rfl | rfl | rfl | rfl | rfl | rfl | rfl | rfl | rfl
    · refine lv_tableIn (off := 67) (tgt := 68) hx hb dX11_count_1 (by rw [h_e]; decide) (by rw [h_e]; decide) (by rw [h_e]; rfl) (by decide) ?_
      refine lv_aload_n hx hb dX11_count_68 rfl (lv_at hl 0 rfl) ?_
      have c_1 : S 0 = .inr (11, [.ref (ad 1), .int 0, .int 0, .int (-1), .ref (ad 2), .ref (ad 20), .ref (ad 38), .ref (ad 93), .ref (ad 94), .ref (ad 95), .ref (ad 102), .ref (ad 104), .ref (ad 107), .ref (ad 111), .ref (ad 119)]) := (hX 0 (by decide))
      refine xget E hQ 0 (by decide) c_1 rfl 4 (by decide) q520 rfl dX11_count_69 ?_
      have c_2 : S 2 = .inr (1, [.int 0, .int 0, .int 0, .ref (ad 3), .ref (ad 5), .ref (ad 6), .int 0, .int 0, .ref (ad 7), .ref (ad 8), .ref (ad 9), .ref (ad 10), .int 0, .ref (ad 15), .ref (ad 16)]) := (hX 2 (by decide))
      refine xget E hQ 2 (by decide) c_2 rfl 1 (by decide) q244 rfl dX11_count_72 ?_
      exact xri E hr hlk hQ (by rw [h_e]; decide) dX11_count_75
    · refine lv_tableIn (off := 75) (tgt := 76) hx hb dX11_count_1 (by rw [h_e]; decide) (by rw [h_e]; decide) (by rw [h_e]; rfl) (by decide) ?_
      refine lv_aload_n hx hb dX11_count_76 rfl (lv_at hl 0 rfl) ?_
      have c_3 : S 0 = .inr (11, [.ref (ad 1), .int 0, .int 0, .int (-1), .ref (ad 2), .ref (ad 20), .ref (ad 38), .ref (ad 93), .ref (ad 94), .ref (ad 95), .ref (ad 102), .ref (ad 104), .ref (ad 107), .ref (ad 111), .ref (ad 119)]) := (hX 0 (by decide))
      refine xget E hQ 0 (by decide) c_3 rfl 4 (by decide) q520 rfl dX11_count_77 ?_
      have c_4 : S 2 = .inr (1, [.int 0, .int 0, .int 0, .ref (ad 3), .ref (ad 5), .ref (ad 6), .int 0, .int 0, .ref (ad 7), .ref (ad 8), .ref (ad 9), .ref (ad 10), .int 0, .ref (ad 15), .ref (ad 16)]) := (hX 2 (by decide))
      refine xget E hQ 2 (by decide) c_4 rfl 3 (by decide) q254 rfl dX11_count_80 ?_
      have c_5 : S 3 = .inr (10, [.int 0, .int 0, .int 0, .int 0, .ref (ad 4)]) := (hX 3 (by decide))
      refine xget E hQ 3 (by decide) c_5 rfl 0 (by decide) q157 rfl dX11_count_83 ?_
      exact xri E hr hlk hQ (by rw [h_e]; decide) dX11_count_86
    · refine lv_tableIn (off := 86) (tgt := 87) hx hb dX11_count_1 (by rw [h_e]; decide) (by rw [h_e]; decide) (by rw [h_e]; rfl) (by decide) ?_
      refine lv_aload_n hx hb dX11_count_87 rfl (lv_at hl 0 rfl) ?_
      have c_6 : S 0 = .inr (11, [.ref (ad 1), .int 0, .int 0, .int (-1), .ref (ad 2), .ref (ad 20), .ref (ad 38), .ref (ad 93), .ref (ad 94), .ref (ad 95), .ref (ad 102), .ref (ad 104), .ref (ad 107), .ref (ad 111), .ref (ad 119)]) := (hX 0 (by decide))
      refine xget E hQ 0 (by decide) c_6 rfl 4 (by decide) q520 rfl dX11_count_88 ?_
      have c_7 : S 2 = .inr (1, [.int 0, .int 0, .int 0, .ref (ad 3), .ref (ad 5), .ref (ad 6), .int 0, .int 0, .ref (ad 7), .ref (ad 8), .ref (ad 9), .ref (ad 10), .int 0, .ref (ad 15), .ref (ad 16)]) := (hX 2 (by decide))
      refine xget E hQ 2 (by decide) c_7 rfl 3 (by decide) q254 rfl dX11_count_91 ?_
      have c_8 : S 3 = .inr (10, [.int 0, .int 0, .int 0, .int 0, .ref (ad 4)]) := (hX 3 (by decide))
      refine xget E hQ 3 (by decide) c_8 rfl 1 (by decide) q160 rfl dX11_count_94 ?_
      exact xri E hr hlk hQ (by rw [h_e]; decide) dX11_count_97
    · refine lv_tableIn (off := 97) (tgt := 98) hx hb dX11_count_1 (by rw [h_e]; decide) (by rw [h_e]; decide) (by rw [h_e]; rfl) (by decide) ?_
      refine lv_aload_n hx hb dX11_count_98 rfl (lv_at hl 0 rfl) ?_
      have c_9 : S 0 = .inr (11, [.ref (ad 1), .int 0, .int 0, .int (-1), .ref (ad 2), .ref (ad 20), .ref (ad 38), .ref (ad 93), .ref (ad 94), .ref (ad 95), .ref (ad 102), .ref (ad 104), .ref (ad 107), .ref (ad 111), .ref (ad 119)]) := (hX 0 (by decide))
      refine xget E hQ 0 (by decide) c_9 rfl 4 (by decide) q520 rfl dX11_count_99 ?_
      have c_10 : S 2 = .inr (1, [.int 0, .int 0, .int 0, .ref (ad 3), .ref (ad 5), .ref (ad 6), .int 0, .int 0, .ref (ad 7), .ref (ad 8), .ref (ad 9), .ref (ad 10), .int 0, .ref (ad 15), .ref (ad 16)]) := (hX 2 (by decide))
      refine xget E hQ 2 (by decide) c_10 rfl 3 (by decide) q254 rfl dX11_count_102 ?_
      have c_11 : S 3 = .inr (10, [.int 0, .int 0, .int 0, .int 0, .ref (ad 4)]) := (hX 3 (by decide))
      refine xget E hQ 3 (by decide) c_11 rfl 2 (by decide) q163 rfl dX11_count_105 ?_
      exact xri E hr hlk hQ (by rw [h_e]; decide) dX11_count_108
    · refine lv_tableIn (off := 108) (tgt := 109) hx hb dX11_count_1 (by rw [h_e]; decide) (by rw [h_e]; decide) (by rw [h_e]; rfl) (by decide) ?_
      refine lv_aload_n hx hb dX11_count_109 rfl (lv_at hl 0 rfl) ?_
      have c_12 : S 0 = .inr (11, [.ref (ad 1), .int 0, .int 0, .int (-1), .ref (ad 2), .ref (ad 20), .ref (ad 38), .ref (ad 93), .ref (ad 94), .ref (ad 95), .ref (ad 102), .ref (ad 104), .ref (ad 107), .ref (ad 111), .ref (ad 119)]) := (hX 0 (by decide))
      refine xget E hQ 0 (by decide) c_12 rfl 4 (by decide) q520 rfl dX11_count_110 ?_
      have c_13 : S 2 = .inr (1, [.int 0, .int 0, .int 0, .ref (ad 3), .ref (ad 5), .ref (ad 6), .int 0, .int 0, .ref (ad 7), .ref (ad 8), .ref (ad 9), .ref (ad 10), .int 0, .ref (ad 15), .ref (ad 16)]) := (hX 2 (by decide))
      refine xget E hQ 2 (by decide) c_13 rfl 2 (by decide) q249 rfl dX11_count_113 ?_
      exact xri E hr hlk hQ (by rw [h_e]; decide) dX11_count_116
    · refine lv_tableIn (off := 116) (tgt := 117) hx hb dX11_count_1 (by rw [h_e]; decide) (by rw [h_e]; decide) (by rw [h_e]; rfl) (by decide) ?_
      refine lv_aload_n hx hb dX11_count_117 rfl (lv_at hl 0 rfl) ?_
      have c_14 : S 0 = .inr (11, [.ref (ad 1), .int 0, .int 0, .int (-1), .ref (ad 2), .ref (ad 20), .ref (ad 38), .ref (ad 93), .ref (ad 94), .ref (ad 95), .ref (ad 102), .ref (ad 104), .ref (ad 107), .ref (ad 111), .ref (ad 119)]) := (hX 0 (by decide))
      refine xget E hQ 0 (by decide) c_14 rfl 4 (by decide) q520 rfl dX11_count_118 ?_
      have c_15 : S 2 = .inr (1, [.int 0, .int 0, .int 0, .ref (ad 3), .ref (ad 5), .ref (ad 6), .int 0, .int 0, .ref (ad 7), .ref (ad 8), .ref (ad 9), .ref (ad 10), .int 0, .ref (ad 15), .ref (ad 16)]) := (hX 2 (by decide))
      refine xget E hQ 2 (by decide) c_15 rfl 6 (by decide) q266 rfl dX11_count_121 ?_
      refine xcSi E hs hQ hml hl.1 (bitCount_0 l g ad hD S ) mJ6_bitCount_0f7a4 q856 rfl ⟨by decide, by decide⟩ ⟨by decide, by decide⟩ (Nat.le_of_ble_eq_true rfl) rfl dX11_count_124 (fun r16 S16 H locs hp16 hQ => ?_)
      obtain ⟨o16, rfl⟩ := hp16
      exact xri E hr hlk hQ (by rw [h_e]; decide) dX11_count_127
    · refine lv_tableIn (off := 127) (tgt := 128) hx hb dX11_count_1 (by rw [h_e]; decide) (by rw [h_e]; decide) (by rw [h_e]; rfl) (by decide) ?_
      refine lv_aload_n hx hb dX11_count_128 rfl (lv_at hl 0 rfl) ?_
      have c_17 : S 0 = .inr (11, [.ref (ad 1), .int 0, .int 0, .int (-1), .ref (ad 2), .ref (ad 20), .ref (ad 38), .ref (ad 93), .ref (ad 94), .ref (ad 95), .ref (ad 102), .ref (ad 104), .ref (ad 107), .ref (ad 111), .ref (ad 119)]) := (hX 0 (by decide))
      refine xget E hQ 0 (by decide) c_17 rfl 4 (by decide) q520 rfl dX11_count_129 ?_
      have c_18 : S 2 = .inr (1, [.int 0, .int 0, .int 0, .ref (ad 3), .ref (ad 5), .ref (ad 6), .int 0, .int 0, .ref (ad 7), .ref (ad 8), .ref (ad 9), .ref (ad 10), .int 0, .ref (ad 15), .ref (ad 16)]) := (hX 2 (by decide))
      refine xget E hQ 2 (by decide) c_18 rfl 7 (by decide) q272 rfl dX11_count_132 ?_
      exact xri E hr hlk hQ (by rw [h_e]; decide) dX11_count_135
    · refine lv_tableIn (off := 135) (tgt := 136) hx hb dX11_count_1 (by rw [h_e]; decide) (by rw [h_e]; decide) (by rw [h_e]; rfl) (by decide) ?_
      refine lv_aload_n hx hb dX11_count_136 rfl (lv_at hl 0 rfl) ?_
      have c_19 : S 0 = .inr (11, [.ref (ad 1), .int 0, .int 0, .int (-1), .ref (ad 2), .ref (ad 20), .ref (ad 38), .ref (ad 93), .ref (ad 94), .ref (ad 95), .ref (ad 102), .ref (ad 104), .ref (ad 107), .ref (ad 111), .ref (ad 119)]) := (hX 0 (by decide))
      refine xget E hQ 0 (by decide) c_19 rfl 4 (by decide) q520 rfl dX11_count_137 ?_
      have c_20 : S 2 = .inr (1, [.int 0, .int 0, .int 0, .ref (ad 3), .ref (ad 5), .ref (ad 6), .int 0, .int 0, .ref (ad 7), .ref (ad 8), .ref (ad 9), .ref (ad 10), .int 0, .ref (ad 15), .ref (ad 16)]) := (hX 2 (by decide))
      refine xget E hQ 2 (by decide) c_20 rfl 11 (by decide) q290 rfl dX11_count_140 ?_
      have c_21 : S 10 = .inr (6, [.int 0, .ref (ad 11), .ref (ad 12), .ref (ad 13), .ref (ad 14)]) := (hX 10 (by decide))
      refine xget E hQ 10 (by decide) c_21 rfl 0 (by decide) q188 rfl dX11_count_143 ?_
      exact xri E hr hlk hQ (by rw [h_e]; decide) dX11_count_146
    · refine lv_tableIn (off := 146) (tgt := 147) hx hb dX11_count_1 (by rw [h_e]; decide) (by rw [h_e]; decide) (by rw [h_e]; rfl) (by decide) ?_
      refine lv_aload_n hx hb dX11_count_147 rfl (lv_at hl 0 rfl) ?_
      have c_22 : S 0 = .inr (11, [.ref (ad 1), .int 0, .int 0, .int (-1), .ref (ad 2), .ref (ad 20), .ref (ad 38), .ref (ad 93), .ref (ad 94), .ref (ad 95), .ref (ad 102), .ref (ad 104), .ref (ad 107), .ref (ad 111), .ref (ad 119)]) := (hX 0 (by decide))
      refine xget E hQ 0 (by decide) c_22 rfl 4 (by decide) q520 rfl dX11_count_148 ?_
      have c_23 : S 2 = .inr (1, [.int 0, .int 0, .int 0, .ref (ad 3), .ref (ad 5), .ref (ad 6), .int 0, .int 0, .ref (ad 7), .ref (ad 8), .ref (ad 9), .ref (ad 10), .int 0, .ref (ad 15), .ref (ad 16)]) := (hX 2 (by decide))
      refine xget E hQ 2 (by decide) c_23 rfl 12 (by decide) q295 rfl dX11_count_151 ?_
      exact xri E hr hlk hQ (by rw [h_e]; decide) dX11_count_154
    · refine lv_tableIn (off := 154) (tgt := 155) hx hb dX11_count_1 (by rw [h_e]; decide) (by rw [h_e]; decide) (by rw [h_e]; rfl) (by decide) ?_
      refine lv_aload_n hx hb dX11_count_155 rfl (lv_at hl 0 rfl) ?_
      have c_24 : S 0 = .inr (11, [.ref (ad 1), .int 0, .int 0, .int (-1), .ref (ad 2), .ref (ad 20), .ref (ad 38), .ref (ad 93), .ref (ad 94), .ref (ad 95), .ref (ad 102), .ref (ad 104), .ref (ad 107), .ref (ad 111), .ref (ad 119)]) := (hX 0 (by decide))
      refine xget E hQ 0 (by decide) c_24 rfl 4 (by decide) q520 rfl dX11_count_156 ?_
      have c_25 : S 2 = .inr (1, [.int 0, .int 0, .int 0, .ref (ad 3), .ref (ad 5), .ref (ad 6), .int 0, .int 0, .ref (ad 7), .ref (ad 8), .ref (ad 9), .ref (ad 10), .int 0, .ref (ad 15), .ref (ad 16)]) := (hX 2 (by decide))
      refine xget E hQ 2 (by decide) c_25 rfl 14 (by decide) q303 rfl dX11_count_159 ?_
      have c_26 : S 16 = .inr (0, [.int 0, .ref (ad 17), .ref (ad 18), .ref (ad 19)]) := (hX 16 (by decide))
      refine xget E hQ 16 (by decide) c_26 rfl 0 (by decide) q218 rfl dX11_count_162 ?_
      exact xri E hr hlk hQ (by rw [h_e]; decide) dX11_count_165
    · refine lv_tableIn (off := 165) (tgt := 166) hx hb dX11_count_1 (by rw [h_e]; decide) (by rw [h_e]; decide) (by rw [h_e]; rfl) (by decide) ?_
      refine lv_aload_n hx hb dX11_count_166 rfl (lv_at hl 0 rfl) ?_
      have c_27 : S 0 = .inr (11, [.ref (ad 1), .int 0, .int 0, .int (-1), .ref (ad 2), .ref (ad 20), .ref (ad 38), .ref (ad 93), .ref (ad 94), .ref (ad 95), .ref (ad 102), .ref (ad 104), .ref (ad 107), .ref (ad 111), .ref (ad 119)]) := (hX 0 (by decide))
      refine xget E hQ 0 (by decide) c_27 rfl 4 (by decide) q520 rfl dX11_count_167 ?_
      have c_28 : S 2 = .inr (1, [.int 0, .int 0, .int 0, .ref (ad 3), .ref (ad 5), .ref (ad 6), .int 0, .int 0, .ref (ad 7), .ref (ad 8), .ref (ad 9), .ref (ad 10), .int 0, .ref (ad 15), .ref (ad 16)]) := (hX 2 (by decide))
      refine xget E hQ 2 (by decide) c_28 rfl 0 (by decide) q238 rfl dX11_count_170 ?_
      exact xri E hr hlk hQ (by rw [h_e]; decide) dX11_count_173
    · refine lv_tableIn (off := 173) (tgt := 174) hx hb dX11_count_1 (by rw [h_e]; decide) (by rw [h_e]; decide) (by rw [h_e]; rfl) (by decide) ?_
      refine lv_aload_n hx hb dX11_count_174 rfl (lv_at hl 0 rfl) ?_
      have c_29 : S 0 = .inr (11, [.ref (ad 1), .int 0, .int 0, .int (-1), .ref (ad 2), .ref (ad 20), .ref (ad 38), .ref (ad 93), .ref (ad 94), .ref (ad 95), .ref (ad 102), .ref (ad 104), .ref (ad 107), .ref (ad 111), .ref (ad 119)]) := (hX 0 (by decide))
      refine xget E hQ 0 (by decide) c_29 rfl 1 (by decide) q517 rfl dX11_count_175 ?_
      exact xri E hr hlk hQ (by rw [h_e]; decide) dX11_count_178
    · refine lv_tableIn (off := 178) (tgt := 179) hx hb dX11_count_1 (by rw [h_e]; decide) (by rw [h_e]; decide) (by rw [h_e]; rfl) (by decide) ?_
      refine lv_aload_n hx hb dX11_count_179 rfl (lv_at hl 0 rfl) ?_
      have c_30 : S 0 = .inr (11, [.ref (ad 1), .int 0, .int 0, .int (-1), .ref (ad 2), .ref (ad 20), .ref (ad 38), .ref (ad 93), .ref (ad 94), .ref (ad 95), .ref (ad 102), .ref (ad 104), .ref (ad 107), .ref (ad 111), .ref (ad 119)]) := (hX 0 (by decide))
      refine xget E hQ 0 (by decide) c_30 rfl 13 (by decide) q529 rfl dX11_count_180 ?_
      have c_31 : S 111 = .inr (8, [.ref (ad 112), .ref (ad 117), .ref (ad 118)]) := (hX 111 (by decide))
      refine xcVi E hs hQ hml hl.1 111 (fX8_filled l g ad hD S hX ) mX8_filled q862 (by decide) c_31 rfl rfl ⟨by decide, by decide⟩ ⟨by decide, by decide⟩ (Nat.le_of_ble_eq_true rfl) rfl dX11_count_183 (fun r32 S32 H locs hp32 hQ _ => ?_)
      subst hp32
      exact xri E hr hlk hQ (by rw [h_e]; decide) dX11_count_186
set_option maxHeartbeats 4000000 in
set_option maxRecDepth 100000 in
theorem rbCopy_39_2 (l : Launch) (g : GG) (ad : Nat → Nat) (hD : Dj ad 122) (S : SS) (f48 : Nat → Int32) (f49 : Nat → Int32) (f50 : Nat → Int32) (f51 : Nat → Int32) (f11 : Nat → Int32) (f12 : Nat → Int32) (f13 : Nat → Int32) (f14 : Nat → Int32) (h47 : S 47 = .inr (6, [.int 0, .ref (ad 48), .ref (ad 49), .ref (ad 50), .ref (ad 51)])) (h10 : S 10 = .inr (6, [.int 0, .ref (ad 11), .ref (ad 12), .ref (ad 13), .ref (ad 14)])) (h48 : S 48 = .inl (g.2 0, 6, .inl f48)) (h49 : S 49 = .inl (g.2 0, 6, .inl f49)) (h50 : S 50 = .inl (g.2 0, 6, .inl f50)) (h51 : S 51 = .inl (g.2 0, 6, .inl f51)) (h11 : S 11 = .inl (g.2 0, 6, .inl f11)) (h12 : S 12 = .inl (g.2 0, 6, .inl f12)) (h13 : S 13 = .inl (g.2 0, 6, .inl f13)) (h14 : S 14 = .inl (g.2 0, 6, .inl f14)) : Met l yX6_copyFrom (wG (.code yX6_copyFrom cX6_copyFrom 2 none)) (Rm 1) (XPre g ad 122 S [.ref (ad 47), .ref (ad 10)]) (va_Qv (fun S' => (∀ j, j ∉ ([47, 48, 49, 50, 51] : List Nat) → S' j = S j) ∧ S' 47 = .inr (6, [.int 0, .ref (ad 48), .ref (ad 49), .ref (ad 50), .ref (ad 51)]) ∧ (∃ f : Nat → Int32, S' 48 = .inl (g.2 0, 6, .inl f)) ∧ (∃ f : Nat → Int32, S' 49 = .inl (g.2 0, 6, .inl f)) ∧ (∃ f : Nat → Int32, S' 50 = .inl (g.2 0, 6, .inl f)) ∧ (∃ f : Nat → Int32, S' 51 = .inl (g.2 0, 6, .inl f))) (QB g ad 122) (FA ad 122)) 0 0 (FA ad 122) := by
  refine xmet cX6_copyFrom "EbbWreck$RuleBook" (by decide) rfl (Nat.le_of_ble_eq_true rfl) (fun p e s m below meth c E hr hlk hml hQ ls hl => ?_)
  have hx := E.1
  have hb := E.2.1
  have hs : Sp ad 122 (FA ad 122) := Sp.fa hD
  have hl : lv_has ls 2 [(0, .ref (ad 47)), (1, .ref (ad 10))] := hl
  refine lv_aload_n hx hb dX6_copyFrom_0 rfl (lv_at hl 0 rfl) ?_
  refine lv_aload_n hx hb dX6_copyFrom_1 rfl (lv_at hl 1 rfl) ?_
  refine xget E hQ 10 (by decide) h10 rfl 0 (by decide) q186 rfl dX6_copyFrom_2 ?_
  refine xputi E hs hQ 47 (by decide) h47 rfl 0 (by decide) q186 rfl rfl (Nat.le_of_ble_eq_true rfl) dX6_copyFrom_5 (fun H locs S1 e1 hQ => ?_)
  have u1 : S1 47 = .inr (6, [.int 0, .ref (ad 48), .ref (ad 49), .ref (ad 50), .ref (ad 51)]) := up_at e1 rfl
  refine lv_aload_n hx hb dX6_copyFrom_8 rfl (lv_at hl 1 rfl) ?_
  have c_2 : S1 10 = .inr (6, [.int 0, .ref (ad 11), .ref (ad 12), .ref (ad 13), .ref (ad 14)]) := (up_ne e1 (by decide) h10)
  refine xget E hQ 10 (by decide) c_2 rfl 1 (by decide) q189 rfl dX6_copyFrom_9 ?_
  refine lv_iconst (v := 0) hx hb dX6_copyFrom_12 (by decide) ?_
  refine lv_aload_n hx hb dX6_copyFrom_13 rfl (lv_at hl 0 rfl) ?_
  refine xget E hQ 47 (by decide) u1 rfl 1 (by decide) q189 rfl dX6_copyFrom_14 ?_
  refine lv_iconst (v := 0) hx hb dX6_copyFrom_17 (by decide) ?_
  refine lv_bipush (v := 6) hx hb dX6_copyFrom_18 (by decide) ?_
  have c_3 : S1 11 = .inl (g.2 0, 6, .inl f11) := (up_ne e1 (by decide) h11)
  have c_4 : S1 48 = .inl (g.2 0, 6, .inl f48) := (up_ne e1 (by decide) h48)
  refine xcopyi E hs hQ hml hl.1 11 (by decide) 48 (by decide) c_3 c_4 q756 (by decide) (by decide) (by decide) (Nat.le_of_ble_eq_true rfl) (Nat.le_of_ble_eq_true rfl) (Nat.le_of_ble_eq_true rfl) (Nat.le_of_ble_eq_true rfl) dX6_copyFrom_20 (fun H locs S5 e5 hQ => ?_)
  have u5 : S5 48 = .inl (g.2 0, 6, .inl (va_cpy f11 f48 (0 : Int32).toNatClampNeg (0 : Int32).toNatClampNeg (6 : Int32).toNatClampNeg)) := up_at e5 rfl
  refine lv_aload_n hx hb dX6_copyFrom_23 rfl (lv_at hl 1 rfl) ?_
  have c_6 : S5 10 = .inr (6, [.int 0, .ref (ad 11), .ref (ad 12), .ref (ad 13), .ref (ad 14)]) := (up_ne e5 (by decide) c_2)
  refine xget E hQ 10 (by decide) c_6 rfl 2 (by decide) q191 rfl dX6_copyFrom_24 ?_
  refine lv_iconst (v := 0) hx hb dX6_copyFrom_27 (by decide) ?_
  refine lv_aload_n hx hb dX6_copyFrom_28 rfl (lv_at hl 0 rfl) ?_
  have c_7 : S5 47 = .inr (6, [.int 0, .ref (ad 48), .ref (ad 49), .ref (ad 50), .ref (ad 51)]) := (up_ne e5 (by decide) u1)
  refine xget E hQ 47 (by decide) c_7 rfl 2 (by decide) q191 rfl dX6_copyFrom_29 ?_
  refine lv_iconst (v := 0) hx hb dX6_copyFrom_32 (by decide) ?_
  refine lv_bipush (v := 6) hx hb dX6_copyFrom_33 (by decide) ?_
  have c_8 : S5 12 = .inl (g.2 0, 6, .inl f12) := (up_ne e5 (by decide) (up_ne e1 (by decide) h12))
  have c_9 : S5 49 = .inl (g.2 0, 6, .inl f49) := (up_ne e5 (by decide) (up_ne e1 (by decide) h49))
  refine xcopyi E hs hQ hml hl.1 12 (by decide) 49 (by decide) c_8 c_9 q756 (by decide) (by decide) (by decide) (Nat.le_of_ble_eq_true rfl) (Nat.le_of_ble_eq_true rfl) (Nat.le_of_ble_eq_true rfl) (Nat.le_of_ble_eq_true rfl) dX6_copyFrom_35 (fun H locs S10 e10 hQ => ?_)
  have u10 : S10 49 = .inl (g.2 0, 6, .inl (va_cpy f12 f49 (0 : Int32).toNatClampNeg (0 : Int32).toNatClampNeg (6 : Int32).toNatClampNeg)) := up_at e10 rfl
  refine lv_aload_n hx hb dX6_copyFrom_38 rfl (lv_at hl 1 rfl) ?_
  have c_11 : S10 10 = .inr (6, [.int 0, .ref (ad 11), .ref (ad 12), .ref (ad 13), .ref (ad 14)]) := (up_ne e10 (by decide) c_6)
  refine xget E hQ 10 (by decide) c_11 rfl 3 (by decide) q193 rfl dX6_copyFrom_39 ?_
  refine lv_iconst (v := 0) hx hb dX6_copyFrom_42 (by decide) ?_
  refine lv_aload_n hx hb dX6_copyFrom_43 rfl (lv_at hl 0 rfl) ?_
  have c_12 : S10 47 = .inr (6, [.int 0, .ref (ad 48), .ref (ad 49), .ref (ad 50), .ref (ad 51)]) := (up_ne e10 (by decide) c_7)
  refine xget E hQ 47 (by decide) c_12 rfl 3 (by decide) q193 rfl dX6_copyFrom_44 ?_
  refine lv_iconst (v := 0) hx hb dX6_copyFrom_47 (by decide) ?_
  refine lv_bipush (v := 6) hx hb dX6_copyFrom_48 (by decide) ?_
  have c_13 : S10 13 = .inl (g.2 0, 6, .inl f13) := (up_ne e10 (by decide) (up_ne e5 (by decide) (up_ne e1 (by decide) h13)))
  have c_14 : S10 50 = .inl (g.2 0, 6, .inl f50) := (up_ne e10 (by decide) (up_ne e5 (by decide) (up_ne e1 (by decide) h50)))
  refine xcopyi E hs hQ hml hl.1 13 (by decide) 50 (by decide) c_13 c_14 q756 (by decide) (by decide) (by decide) (Nat.le_of_ble_eq_true rfl) (Nat.le_of_ble_eq_true rfl) (Nat.le_of_ble_eq_true rfl) (Nat.le_of_ble_eq_true rfl) dX6_copyFrom_50 (fun H locs S15 e15 hQ => ?_)
  have u15 : S15 50 = .inl (g.2 0, 6, .inl (va_cpy f13 f50 (0 : Int32).toNatClampNeg (0 : Int32).toNatClampNeg (6 : Int32).toNatClampNeg)) := up_at e15 rfl
  refine lv_aload_n hx hb dX6_copyFrom_53 rfl (lv_at hl 1 rfl) ?_
  have c_16 : S15 10 = .inr (6, [.int 0, .ref (ad 11), .ref (ad 12), .ref (ad 13), .ref (ad 14)]) := (up_ne e15 (by decide) c_11)
  refine xget E hQ 10 (by decide) c_16 rfl 4 (by decide) q195 rfl dX6_copyFrom_54 ?_
  refine lv_iconst (v := 0) hx hb dX6_copyFrom_57 (by decide) ?_
  refine lv_aload_n hx hb dX6_copyFrom_58 rfl (lv_at hl 0 rfl) ?_
  have c_17 : S15 47 = .inr (6, [.int 0, .ref (ad 48), .ref (ad 49), .ref (ad 50), .ref (ad 51)]) := (up_ne e15 (by decide) c_12)
  refine xget E hQ 47 (by decide) c_17 rfl 4 (by decide) q195 rfl dX6_copyFrom_59 ?_
  refine lv_iconst (v := 0) hx hb dX6_copyFrom_62 (by decide) ?_
  refine lv_bipush (v := 6) hx hb dX6_copyFrom_63 (by decide) ?_
  have c_18 : S15 14 = .inl (g.2 0, 6, .inl f14) := (up_ne e15 (by decide) (up_ne e10 (by decide) (up_ne e5 (by decide) (up_ne e1 (by decide) h14))))
  have c_19 : S15 51 = .inl (g.2 0, 6, .inl f51) := (up_ne e15 (by decide) (up_ne e10 (by decide) (up_ne e5 (by decide) (up_ne e1 (by decide) h51))))
  refine xcopyi E hs hQ hml hl.1 14 (by decide) 51 (by decide) c_18 c_19 q756 (by decide) (by decide) (by decide) (Nat.le_of_ble_eq_true rfl) (Nat.le_of_ble_eq_true rfl) (Nat.le_of_ble_eq_true rfl) (Nat.le_of_ble_eq_true rfl) dX6_copyFrom_65 (fun H locs S20 e20 hQ => ?_)
  have u20 : S20 51 = .inl (g.2 0, 6, .inl (va_cpy f14 f51 (0 : Int32).toNatClampNeg (0 : Int32).toNatClampNeg (6 : Int32).toNatClampNeg)) := up_at e20 rfl
  have c_21 : S20 47 = .inr (6, [.int 0, .ref (ad 48), .ref (ad 49), .ref (ad 50), .ref (ad 51)]) := (up_ne e20 (by decide) c_17)
  have c_22 : S20 48 = .inl (g.2 0, 6, .inl (va_cpy f11 f48 (0 : Int32).toNatClampNeg (0 : Int32).toNatClampNeg (6 : Int32).toNatClampNeg)) := (up_ne e20 (by decide) (up_ne e15 (by decide) (up_ne e10 (by decide) u5)))
  have c_23 : S20 49 = .inl (g.2 0, 6, .inl (va_cpy f12 f49 (0 : Int32).toNatClampNeg (0 : Int32).toNatClampNeg (6 : Int32).toNatClampNeg)) := (up_ne e20 (by decide) (up_ne e15 (by decide) u10))
  have c_24 : S20 50 = .inl (g.2 0, 6, .inl (va_cpy f13 f50 (0 : Int32).toNatClampNeg (0 : Int32).toNatClampNeg (6 : Int32).toNatClampNeg)) := (up_ne e20 (by decide) u15)
  exact xrv E hr hlk hQ (⟨fun j hj => (up_ne e20 (fun h => hj (by subst h; decide)) (up_ne e15 (fun h => hj (by subst h; decide)) (up_ne e10 (fun h => hj (by subst h; decide)) (up_ne e5 (fun h => hj (by subst h; decide)) (up_ne e1 (fun h => hj (by subst h; decide)) rfl))))), c_21, ⟨_, c_22⟩, ⟨_, c_23⟩, ⟨_, c_24⟩, ⟨_, u20⟩⟩) dX6_copyFrom_68
set_option maxHeartbeats 4000000 in
set_option maxRecDepth 100000 in
theorem acCopy_39_2 (l : Launch) (g : GG) (ad : Nat → Nat) (hD : Dj ad 122) (S : SS) (f54 : Nat → Int32) (f55 : Nat → Int32) (f56 : Nat → Int32) (f17 : Nat → Int32) (f18 : Nat → Int32) (f19 : Nat → Int32) (h53 : S 53 = .inr (0, [.int 0, .ref (ad 54), .ref (ad 55), .ref (ad 56)])) (h16 : S 16 = .inr (0, [.int 0, .ref (ad 17), .ref (ad 18), .ref (ad 19)])) (h54 : S 54 = .inl (g.2 0, 40, .inl f54)) (h55 : S 55 = .inl (g.2 0, 40, .inl f55)) (h56 : S 56 = .inl (g.2 0, 40, .inl f56)) (h17 : S 17 = .inl (g.2 0, 40, .inl f17)) (h18 : S 18 = .inl (g.2 0, 40, .inl f18)) (h19 : S 19 = .inl (g.2 0, 40, .inl f19)) : Met l yX0_copyFrom (wG (.code yX0_copyFrom cX0_copyFrom 2 none)) (Rm 1) (XPre g ad 122 S [.ref (ad 53), .ref (ad 16)]) (va_Qv (fun S' => (∀ j, j ∉ ([53, 54, 55, 56] : List Nat) → S' j = S j) ∧ S' 53 = .inr (0, [.int 0, .ref (ad 54), .ref (ad 55), .ref (ad 56)]) ∧ (∃ f : Nat → Int32, S' 54 = .inl (g.2 0, 40, .inl f)) ∧ (∃ f : Nat → Int32, S' 55 = .inl (g.2 0, 40, .inl f)) ∧ (∃ f : Nat → Int32, S' 56 = .inl (g.2 0, 40, .inl f))) (QB g ad 122) (FA ad 122)) 0 0 (FA ad 122) := by
  refine xmet cX0_copyFrom "EbbWreck$Acts" (by decide) rfl (Nat.le_of_ble_eq_true rfl) (fun p e s m below meth c E hr hlk hml hQ ls hl => ?_)
  have hx := E.1
  have hb := E.2.1
  have hs : Sp ad 122 (FA ad 122) := Sp.fa hD
  have hl : lv_has ls 2 [(0, .ref (ad 53)), (1, .ref (ad 16))] := hl
  refine lv_aload_n hx hb dX0_copyFrom_0 rfl (lv_at hl 0 rfl) ?_
  refine lv_aload_n hx hb dX0_copyFrom_1 rfl (lv_at hl 1 rfl) ?_
  refine xget E hQ 16 (by decide) h16 rfl 0 (by decide) q215 rfl dX0_copyFrom_2 ?_
  refine xputi E hs hQ 53 (by decide) h53 rfl 0 (by decide) q215 rfl rfl (Nat.le_of_ble_eq_true rfl) dX0_copyFrom_5 (fun H locs S1 e1 hQ => ?_)
  have u1 : S1 53 = .inr (0, [.int 0, .ref (ad 54), .ref (ad 55), .ref (ad 56)]) := up_at e1 rfl
  refine lv_aload_n hx hb dX0_copyFrom_8 rfl (lv_at hl 1 rfl) ?_
  have c_2 : S1 16 = .inr (0, [.int 0, .ref (ad 17), .ref (ad 18), .ref (ad 19)]) := (up_ne e1 (by decide) h16)
  refine xget E hQ 16 (by decide) c_2 rfl 1 (by decide) q219 rfl dX0_copyFrom_9 ?_
  refine lv_iconst (v := 0) hx hb dX0_copyFrom_12 (by decide) ?_
  refine lv_aload_n hx hb dX0_copyFrom_13 rfl (lv_at hl 0 rfl) ?_
  refine xget E hQ 53 (by decide) u1 rfl 1 (by decide) q219 rfl dX0_copyFrom_14 ?_
  refine lv_iconst (v := 0) hx hb dX0_copyFrom_17 (by decide) ?_
  refine lv_bipush (v := 40) hx hb dX0_copyFrom_18 (by decide) ?_
  have c_3 : S1 17 = .inl (g.2 0, 40, .inl f17) := (up_ne e1 (by decide) h17)
  have c_4 : S1 54 = .inl (g.2 0, 40, .inl f54) := (up_ne e1 (by decide) h54)
  refine xcopyi E hs hQ hml hl.1 17 (by decide) 54 (by decide) c_3 c_4 q761 (by decide) (by decide) (by decide) (Nat.le_of_ble_eq_true rfl) (Nat.le_of_ble_eq_true rfl) (Nat.le_of_ble_eq_true rfl) (Nat.le_of_ble_eq_true rfl) dX0_copyFrom_20 (fun H locs S5 e5 hQ => ?_)
  have u5 : S5 54 = .inl (g.2 0, 40, .inl (va_cpy f17 f54 (0 : Int32).toNatClampNeg (0 : Int32).toNatClampNeg (40 : Int32).toNatClampNeg)) := up_at e5 rfl
  refine lv_aload_n hx hb dX0_copyFrom_23 rfl (lv_at hl 1 rfl) ?_
  have c_6 : S5 16 = .inr (0, [.int 0, .ref (ad 17), .ref (ad 18), .ref (ad 19)]) := (up_ne e5 (by decide) c_2)
  refine xget E hQ 16 (by decide) c_6 rfl 2 (by decide) q222 rfl dX0_copyFrom_24 ?_
  refine lv_iconst (v := 0) hx hb dX0_copyFrom_27 (by decide) ?_
  refine lv_aload_n hx hb dX0_copyFrom_28 rfl (lv_at hl 0 rfl) ?_
  have c_7 : S5 53 = .inr (0, [.int 0, .ref (ad 54), .ref (ad 55), .ref (ad 56)]) := (up_ne e5 (by decide) u1)
  refine xget E hQ 53 (by decide) c_7 rfl 2 (by decide) q222 rfl dX0_copyFrom_29 ?_
  refine lv_iconst (v := 0) hx hb dX0_copyFrom_32 (by decide) ?_
  refine lv_bipush (v := 40) hx hb dX0_copyFrom_33 (by decide) ?_
  have c_8 : S5 18 = .inl (g.2 0, 40, .inl f18) := (up_ne e5 (by decide) (up_ne e1 (by decide) h18))
  have c_9 : S5 55 = .inl (g.2 0, 40, .inl f55) := (up_ne e5 (by decide) (up_ne e1 (by decide) h55))
  refine xcopyi E hs hQ hml hl.1 18 (by decide) 55 (by decide) c_8 c_9 q761 (by decide) (by decide) (by decide) (Nat.le_of_ble_eq_true rfl) (Nat.le_of_ble_eq_true rfl) (Nat.le_of_ble_eq_true rfl) (Nat.le_of_ble_eq_true rfl) dX0_copyFrom_35 (fun H locs S10 e10 hQ => ?_)
  have u10 : S10 55 = .inl (g.2 0, 40, .inl (va_cpy f18 f55 (0 : Int32).toNatClampNeg (0 : Int32).toNatClampNeg (40 : Int32).toNatClampNeg)) := up_at e10 rfl
  refine lv_aload_n hx hb dX0_copyFrom_38 rfl (lv_at hl 1 rfl) ?_
  have c_11 : S10 16 = .inr (0, [.int 0, .ref (ad 17), .ref (ad 18), .ref (ad 19)]) := (up_ne e10 (by decide) c_6)
  refine xget E hQ 16 (by decide) c_11 rfl 3 (by decide) q224 rfl dX0_copyFrom_39 ?_
  refine lv_iconst (v := 0) hx hb dX0_copyFrom_42 (by decide) ?_
  refine lv_aload_n hx hb dX0_copyFrom_43 rfl (lv_at hl 0 rfl) ?_
  have c_12 : S10 53 = .inr (0, [.int 0, .ref (ad 54), .ref (ad 55), .ref (ad 56)]) := (up_ne e10 (by decide) c_7)
  refine xget E hQ 53 (by decide) c_12 rfl 3 (by decide) q224 rfl dX0_copyFrom_44 ?_
  refine lv_iconst (v := 0) hx hb dX0_copyFrom_47 (by decide) ?_
  refine lv_bipush (v := 40) hx hb dX0_copyFrom_48 (by decide) ?_
  have c_13 : S10 19 = .inl (g.2 0, 40, .inl f19) := (up_ne e10 (by decide) (up_ne e5 (by decide) (up_ne e1 (by decide) h19)))
  have c_14 : S10 56 = .inl (g.2 0, 40, .inl f56) := (up_ne e10 (by decide) (up_ne e5 (by decide) (up_ne e1 (by decide) h56)))
  refine xcopyi E hs hQ hml hl.1 19 (by decide) 56 (by decide) c_13 c_14 q761 (by decide) (by decide) (by decide) (Nat.le_of_ble_eq_true rfl) (Nat.le_of_ble_eq_true rfl) (Nat.le_of_ble_eq_true rfl) (Nat.le_of_ble_eq_true rfl) dX0_copyFrom_50 (fun H locs S15 e15 hQ => ?_)
  have u15 : S15 56 = .inl (g.2 0, 40, .inl (va_cpy f19 f56 (0 : Int32).toNatClampNeg (0 : Int32).toNatClampNeg (40 : Int32).toNatClampNeg)) := up_at e15 rfl
  have c_16 : S15 53 = .inr (0, [.int 0, .ref (ad 54), .ref (ad 55), .ref (ad 56)]) := (up_ne e15 (by decide) c_12)
  have c_17 : S15 54 = .inl (g.2 0, 40, .inl (va_cpy f17 f54 (0 : Int32).toNatClampNeg (0 : Int32).toNatClampNeg (40 : Int32).toNatClampNeg)) := (up_ne e15 (by decide) (up_ne e10 (by decide) u5))
  have c_18 : S15 55 = .inl (g.2 0, 40, .inl (va_cpy f18 f55 (0 : Int32).toNatClampNeg (0 : Int32).toNatClampNeg (40 : Int32).toNatClampNeg)) := (up_ne e15 (by decide) u10)
  exact xrv E hr hlk hQ (⟨fun j hj => (up_ne e15 (fun h => hj (by subst h; decide)) (up_ne e10 (fun h => hj (by subst h; decide)) (up_ne e5 (fun h => hj (by subst h; decide)) (up_ne e1 (fun h => hj (by subst h; decide)) rfl)))), c_16, ⟨_, c_17⟩, ⟨_, c_18⟩, ⟨_, u15⟩⟩) dX0_copyFrom_53
set_option maxHeartbeats 4000000 in
set_option maxRecDepth 100000 in
theorem tell_40 (l : Launch) (g : GG) (ad : Nat → Nat) (hD : Dj ad 122) (S : SS) (f41 : Nat → Int32) (h40 : S 40 = .inr (10, [.int 0, .int 0, .int 0, .int 0, .ref (ad 41)])) (h41 : S 41 = .inl (g.2 0, 36, .inl f41)) : Met l yX10_tell (wG (.code yX10_tell cX10_tell 5 none)) (Rm 1) (XPre g ad 122 S [.ref (ad 40), .int 0, .int 0, .int 0]) (va_Qv (fun S' => (∀ j, j ∉ ([40, 41] : List Nat) → S' j = S j) ∧ S' 40 = .inr (10, [.int 0, .int 0, .int 0, .int 0, .ref (ad 41)]) ∧ (∃ f : Nat → Int32, S' 41 = .inl (g.2 0, 36, .inl f))) (QB g ad 122) (FA ad 122)) 0 0 (FA ad 122) := by
  refine xmet cX10_tell "EbbWreck$Tide" (by decide) rfl (Nat.le_of_ble_eq_true rfl) (fun p e s m below meth c E hr hlk hml hQ ls hl => ?_)
  have hx := E.1
  have hb := E.2.1
  have hs : Sp ad 122 (FA ad 122) := Sp.fa hD
  have hl : lv_has ls 5 [(0, .ref (ad 40)), (1, .int 0), (2, .int 0), (3, .int 0)] := hl
  refine lv_aload_n hx hb dX10_tell_0 rfl (lv_at hl 0 rfl) ?_
  refine lv_iload_n hx hb dX10_tell_1 rfl (lv_at hl 1 rfl) ?_
  refine xputi E hs hQ 40 (by decide) h40 rfl 0 (by decide) q155 rfl rfl (Nat.le_of_ble_eq_true rfl) dX10_tell_2 (fun H locs S1 e1 hQ => ?_)
  have u1 : S1 40 = .inr (10, [.int 0, .int 0, .int 0, .int 0, .ref (ad 41)]) := up_at e1 rfl
  refine lv_aload_n hx hb dX10_tell_5 rfl (lv_at hl 0 rfl) ?_
  refine lv_iload_n hx hb dX10_tell_6 rfl (lv_at hl 2 rfl) ?_
  refine xputi E hs hQ 40 (by decide) u1 rfl 1 (by decide) q158 rfl rfl (Nat.le_of_ble_eq_true rfl) dX10_tell_7 (fun H locs S2 e2 hQ => ?_)
  have u2 : S2 40 = .inr (10, [.int 0, .int 0, .int 0, .int 0, .ref (ad 41)]) := up_at e2 rfl
  refine lv_aload_n hx hb dX10_tell_10 rfl (lv_at hl 0 rfl) ?_
  refine lv_iload_n hx hb dX10_tell_11 rfl (lv_at hl 3 rfl) ?_
  refine xputi E hs hQ 40 (by decide) u2 rfl 2 (by decide) q161 rfl rfl (Nat.le_of_ble_eq_true rfl) dX10_tell_12 (fun H locs S3 e3 hQ => ?_)
  have u3 : S3 40 = .inr (10, [.int 0, .int 0, .int 0, .int 0, .ref (ad 41)]) := up_at e3 rfl
  refine lv_aload_n hx hb dX10_tell_15 rfl (lv_at hl 0 rfl) ?_
  refine lv_aload_n hx hb dX10_tell_16 rfl (lv_at hl 0 rfl) ?_
  refine xget E hQ 40 (by decide) u3 rfl 0 (by decide) q155 rfl dX10_tell_17 ?_
  refine lv_aload_n hx hb dX10_tell_20 rfl (lv_at hl 0 rfl) ?_
  refine xget E hQ 40 (by decide) u3 rfl 1 (by decide) q158 rfl dX10_tell_21 ?_
  refine lv_iadd hx hb dX10_tell_24 ?_
  refine sb_at (P := fun z => W _ _ _ _ _ _ _ _ _ _ _ _ _ _ _ (F0 _ _ _ (.int z :: _))) (show (0 : Int32) + 0 = 0 by decide) ?_
  refine lv_aload_n hx hb dX10_tell_25 rfl (lv_at hl 0 rfl) ?_
  refine xget E hQ 40 (by decide) u3 rfl 2 (by decide) q161 rfl dX10_tell_26 ?_
  refine lv_iadd hx hb dX10_tell_29 ?_
  refine sb_at (P := fun z => W _ _ _ _ _ _ _ _ _ _ _ _ _ _ _ (F0 _ _ _ (.int z :: _))) (show (0 : Int32) + 0 = 0 by decide) ?_
  refine lv_aload_n hx hb dX10_tell_30 rfl (lv_at hl 0 rfl) ?_
  refine xget E hQ 40 (by decide) u3 rfl 1 (by decide) q158 rfl dX10_tell_31 ?_
  refine lv_iadd hx hb dX10_tell_34 ?_
  refine sb_at (P := fun z => W _ _ _ _ _ _ _ _ _ _ _ _ _ _ _ (F0 _ _ _ (.int z :: _))) (show (0 : Int32) + 0 = 0 by decide) ?_
  refine xputi E hs hQ 40 (by decide) u3 rfl 3 (by decide) q165 rfl rfl (Nat.le_of_ble_eq_true rfl) dX10_tell_35 (fun H locs S4 e4 hQ => ?_)
  have u4 : S4 40 = .inr (10, [.int 0, .int 0, .int 0, .int 0, .ref (ad 41)]) := up_at e4 rfl
  refine lv_aload_n hx hb dX10_tell_38 rfl (lv_at hl 0 rfl) ?_
  refine xget E hQ 40 (by decide) u4 rfl 4 (by decide) q166 rfl dX10_tell_39 ?_
  refine lv_iconst (v := 1) hx hb dX10_tell_42 (by decide) ?_
  have c_5 : S4 41 = .inl (g.2 0, 36, .inl f41) := (up_ne e4 (by decide) (up_ne e3 (by decide) (up_ne e2 (by decide) (up_ne e1 (by decide) h41))))
  refine xcSv E hs hQ hml hl.1 (uFillI l g ad _ hD S4 41 (by decide) 36 (by decide) f41 1 c_5) mJ7_fill_53178 q596 rfl ⟨by decide, by decide⟩ ⟨by decide, by decide⟩ (Nat.le_of_ble_eq_true rfl) rfl dX10_tell_43 (fun S6 H locs hp6 hQ => ?_)
  have e6 := hp6
  have u6 : S6 41 = .inl (g.2 0, 36, .inl (fillF 1 36 f41)) := up_at e6 rfl
  refine lv_iconst (v := 0) hx hb dX10_tell_46 (by decide) ?_
  refine lv_istore (lv' := [(4, .int 0), (0, .ref (ad 40)), (1, .int 0), (2, .int 0), (3, .int 0)]) hx hb dX10_tell_47 hl (by decide) rfl (fun ls hl => ?_)
  refine lv_iload hx hb dX10_tell_49 (lv_at hl 0 rfl) ?_
  refine lv_aload_n hx hb dX10_tell_51 rfl (lv_at hl 1 rfl) ?_
  have c_7 : S6 40 = .inr (10, [.int 0, .int 0, .int 0, .int 0, .ref (ad 41)]) := (up_ne e6 (by decide) u4)
  refine xget E hQ 40 (by decide) c_7 rfl 0 (by decide) q155 rfl dX10_tell_52 ?_
  refine lv_icmp_ge (tgt := 79) hx hb dX10_tell_55 (by decide) (fun k_8 => ?_) (fun k_8 => absurd k_8 (by decide))
  refine lv_aload_n hx hb dX10_tell_79 rfl (lv_at hl 1 rfl) ?_
  refine xget E hQ 40 (by decide) c_7 rfl 0 (by decide) q155 rfl dX10_tell_80 ?_
  refine lv_aload_n hx hb dX10_tell_83 rfl (lv_at hl 1 rfl) ?_
  refine xget E hQ 40 (by decide) c_7 rfl 1 (by decide) q158 rfl dX10_tell_84 ?_
  refine lv_iadd hx hb dX10_tell_87 ?_
  refine sb_at (P := fun z => W _ _ _ _ _ _ _ _ _ _ _ _ _ _ _ (F0 _ _ _ (.int z :: _))) (show (0 : Int32) + 0 = 0 by decide) ?_
  refine lv_istore (lv' := [(4, .int 0), (0, .ref (ad 40)), (1, .int 0), (2, .int 0), (3, .int 0)]) hx hb dX10_tell_88 hl (by decide) rfl (fun ls hl => ?_)
  refine lv_iload hx hb dX10_tell_90 (lv_at hl 0 rfl) ?_
  refine lv_aload_n hx hb dX10_tell_92 rfl (lv_at hl 1 rfl) ?_
  refine xget E hQ 40 (by decide) c_7 rfl 3 (by decide) q165 rfl dX10_tell_93 ?_
  refine lv_aload_n hx hb dX10_tell_96 rfl (lv_at hl 1 rfl) ?_
  refine xget E hQ 40 (by decide) c_7 rfl 1 (by decide) q158 rfl dX10_tell_97 ?_
  refine lv_isub hx hb dX10_tell_100 ?_
  refine sb_at (P := fun z => W _ _ _ _ _ _ _ _ _ _ _ _ _ _ _ (F0 _ _ _ (.int z :: _))) (show (0 : Int32) - 0 = 0 by decide) ?_
  refine lv_icmp_ge (tgt := 125) hx hb dX10_tell_101 (by decide) (fun k_9 => ?_) (fun k_9 => absurd k_9 (by decide))
  exact xrv E hr hlk hQ (⟨fun j hj => (up_ne e6 (fun h => hj (by subst h; decide)) (up_ne e4 (fun h => hj (by subst h; decide)) (up_ne e3 (fun h => hj (by subst h; decide)) (up_ne e2 (fun h => hj (by subst h; decide)) (up_ne e1 (fun h => hj (by subst h; decide)) rfl))))), c_7, ⟨_, u6⟩⟩) dX10_tell_125
set_option maxHeartbeats 4000000 in
set_option maxRecDepth 100000 in
theorem cCopy_39_2 (l : Launch) (g : GG) (ad : Nat → Nat) (hD : Dj ad 122) (S : SS) (f41 : Nat → Int32) (f42 : Nat → Int32) (f43 : Nat → Int32) (f44 : Nat → Int32) (f45 : Nat → Int32) (f46 : Nat → Int32) (f52 : Nat → Int32) (f5 : Nat → Int32) (f6 : Nat → Int32) (f7 : Nat → Int32) (f8 : Nat → Int32) (f9 : Nat → Int32) (f15 : Nat → Int32) (f48 : Nat → Int32) (f49 : Nat → Int32) (f50 : Nat → Int32) (f51 : Nat → Int32) (f11 : Nat → Int32) (f12 : Nat → Int32) (f13 : Nat → Int32) (f14 : Nat → Int32) (f54 : Nat → Int32) (f55 : Nat → Int32) (f56 : Nat → Int32) (f17 : Nat → Int32) (f18 : Nat → Int32) (f19 : Nat → Int32) (h39 : S 39 = .inr (1, [.int 0, .int 0, .int 0, .ref (ad 40), .ref (ad 42), .ref (ad 43), .int 0, .int 0, .ref (ad 44), .ref (ad 45), .ref (ad 46), .ref (ad 47), .int 0, .ref (ad 52), .ref (ad 53)])) (h2 : S 2 = .inr (1, [.int 0, .int 0, .int 0, .ref (ad 3), .ref (ad 5), .ref (ad 6), .int 0, .int 0, .ref (ad 7), .ref (ad 8), .ref (ad 9), .ref (ad 10), .int 0, .ref (ad 15), .ref (ad 16)])) (h40 : S 40 = .inr (10, [.int 0, .int 0, .int 0, .int 0, .ref (ad 41)])) (h3 : S 3 = .inr (10, [.int 0, .int 0, .int 0, .int 0, .ref (ad 4)])) (h41 : S 41 = .inl (g.2 0, 36, .inl f41)) (h42 : S 42 = .inl (g.2 0, 12, .inl f42)) (h43 : S 43 = .inl (g.2 0, 12, .inl f43)) (h44 : S 44 = .inl (g.2 0, 8, .inl f44)) (h45 : S 45 = .inl (g.2 0, 8, .inl f45)) (h46 : S 46 = .inl (g.2 0, 8, .inl f46)) (h52 : S 52 = .inl (g.2 0, 3, .inl f52)) (h5 : S 5 = .inl (g.2 0, 12, .inl f5)) (h6 : S 6 = .inl (g.2 0, 12, .inl f6)) (h7 : S 7 = .inl (g.2 0, 8, .inl f7)) (h8 : S 8 = .inl (g.2 0, 8, .inl f8)) (h9 : S 9 = .inl (g.2 0, 8, .inl f9)) (h15 : S 15 = .inl (g.2 0, 3, .inl f15)) (h47 : S 47 = .inr (6, [.int 0, .ref (ad 48), .ref (ad 49), .ref (ad 50), .ref (ad 51)])) (h10 : S 10 = .inr (6, [.int 0, .ref (ad 11), .ref (ad 12), .ref (ad 13), .ref (ad 14)])) (h48 : S 48 = .inl (g.2 0, 6, .inl f48)) (h49 : S 49 = .inl (g.2 0, 6, .inl f49)) (h50 : S 50 = .inl (g.2 0, 6, .inl f50)) (h51 : S 51 = .inl (g.2 0, 6, .inl f51)) (h11 : S 11 = .inl (g.2 0, 6, .inl f11)) (h12 : S 12 = .inl (g.2 0, 6, .inl f12)) (h13 : S 13 = .inl (g.2 0, 6, .inl f13)) (h14 : S 14 = .inl (g.2 0, 6, .inl f14)) (h53 : S 53 = .inr (0, [.int 0, .ref (ad 54), .ref (ad 55), .ref (ad 56)])) (h16 : S 16 = .inr (0, [.int 0, .ref (ad 17), .ref (ad 18), .ref (ad 19)])) (h54 : S 54 = .inl (g.2 0, 40, .inl f54)) (h55 : S 55 = .inl (g.2 0, 40, .inl f55)) (h56 : S 56 = .inl (g.2 0, 40, .inl f56)) (h17 : S 17 = .inl (g.2 0, 40, .inl f17)) (h18 : S 18 = .inl (g.2 0, 40, .inl f18)) (h19 : S 19 = .inl (g.2 0, 40, .inl f19)) : Met l yX1_copyFrom (wG (.code yX1_copyFrom cX1_copyFrom 2 none)) (Rm 2) (XPre g ad 122 S [.ref (ad 39), .ref (ad 2)]) (va_Qv (fun S' => (∀ j, j ∉ ([39, 40, 41, 42, 43, 44, 45, 46, 47, 48, 49, 50, 51, 52, 53, 54, 55, 56] : List Nat) → S' j = S j) ∧ S' 39 = .inr (1, [.int 0, .int 0, .int 0, .ref (ad 40), .ref (ad 42), .ref (ad 43), .int 0, .int 0, .ref (ad 44), .ref (ad 45), .ref (ad 46), .ref (ad 47), .int 0, .ref (ad 52), .ref (ad 53)]) ∧ S' 40 = .inr (10, [.int 0, .int 0, .int 0, .int 0, .ref (ad 41)]) ∧ (∃ f : Nat → Int32, S' 41 = .inl (g.2 0, 36, .inl f)) ∧ (∃ f : Nat → Int32, S' 42 = .inl (g.2 0, 12, .inl f)) ∧ (∃ f : Nat → Int32, S' 43 = .inl (g.2 0, 12, .inl f)) ∧ (∃ f : Nat → Int32, S' 44 = .inl (g.2 0, 8, .inl f)) ∧ (∃ f : Nat → Int32, S' 45 = .inl (g.2 0, 8, .inl f)) ∧ (∃ f : Nat → Int32, S' 46 = .inl (g.2 0, 8, .inl f)) ∧ S' 47 = .inr (6, [.int 0, .ref (ad 48), .ref (ad 49), .ref (ad 50), .ref (ad 51)]) ∧ (∃ f : Nat → Int32, S' 48 = .inl (g.2 0, 6, .inl f)) ∧ (∃ f : Nat → Int32, S' 49 = .inl (g.2 0, 6, .inl f)) ∧ (∃ f : Nat → Int32, S' 50 = .inl (g.2 0, 6, .inl f)) ∧ (∃ f : Nat → Int32, S' 51 = .inl (g.2 0, 6, .inl f)) ∧ (∃ f : Nat → Int32, S' 52 = .inl (g.2 0, 3, .inl f)) ∧ S' 53 = .inr (0, [.int 0, .ref (ad 54), .ref (ad 55), .ref (ad 56)]) ∧ (∃ f : Nat → Int32, S' 54 = .inl (g.2 0, 40, .inl f)) ∧ (∃ f : Nat → Int32, S' 55 = .inl (g.2 0, 40, .inl f)) ∧ (∃ f : Nat → Int32, S' 56 = .inl (g.2 0, 40, .inl f))) (QB g ad 122) (FA ad 122)) 0 0 (FA ad 122) := by
  refine xmet cX1_copyFrom "EbbWreck$Coast" (by decide) rfl (Nat.le_of_ble_eq_true rfl) (fun p e s m below meth c E hr hlk hml hQ ls hl => ?_)
  have hx := E.1
  have hb := E.2.1
  have hs : Sp ad 122 (FA ad 122) := Sp.fa hD
  have hl : lv_has ls 2 [(0, .ref (ad 39)), (1, .ref (ad 2))] := hl
  refine lv_aload_n hx hb dX1_copyFrom_0 rfl (lv_at hl 0 rfl) ?_
  refine lv_aload_n hx hb dX1_copyFrom_1 rfl (lv_at hl 1 rfl) ?_
  refine xget E hQ 2 (by decide) h2 rfl 0 (by decide) q236 rfl dX1_copyFrom_2 ?_
  refine xputi E hs hQ 39 (by decide) h39 rfl 0 (by decide) q236 rfl rfl (Nat.le_of_ble_eq_true rfl) dX1_copyFrom_5 (fun H locs S1 e1 hQ => ?_)
  have u1 : S1 39 = .inr (1, [.int 0, .int 0, .int 0, .ref (ad 40), .ref (ad 42), .ref (ad 43), .int 0, .int 0, .ref (ad 44), .ref (ad 45), .ref (ad 46), .ref (ad 47), .int 0, .ref (ad 52), .ref (ad 53)]) := up_at e1 rfl
  refine lv_aload_n hx hb dX1_copyFrom_8 rfl (lv_at hl 0 rfl) ?_
  refine lv_aload_n hx hb dX1_copyFrom_9 rfl (lv_at hl 1 rfl) ?_
  have c_2 : S1 2 = .inr (1, [.int 0, .int 0, .int 0, .ref (ad 3), .ref (ad 5), .ref (ad 6), .int 0, .int 0, .ref (ad 7), .ref (ad 8), .ref (ad 9), .ref (ad 10), .int 0, .ref (ad 15), .ref (ad 16)]) := (up_ne e1 (by decide) h2)
  refine xget E hQ 2 (by decide) c_2 rfl 1 (by decide) q239 rfl dX1_copyFrom_10 ?_
  refine xputi E hs hQ 39 (by decide) u1 rfl 1 (by decide) q239 rfl rfl (Nat.le_of_ble_eq_true rfl) dX1_copyFrom_13 (fun H locs S3 e3 hQ => ?_)
  have u3 : S3 39 = .inr (1, [.int 0, .int 0, .int 0, .ref (ad 40), .ref (ad 42), .ref (ad 43), .int 0, .int 0, .ref (ad 44), .ref (ad 45), .ref (ad 46), .ref (ad 47), .int 0, .ref (ad 52), .ref (ad 53)]) := up_at e3 rfl
  refine lv_aload_n hx hb dX1_copyFrom_16 rfl (lv_at hl 0 rfl) ?_
  refine lv_aload_n hx hb dX1_copyFrom_17 rfl (lv_at hl 1 rfl) ?_
  have c_4 : S3 2 = .inr (1, [.int 0, .int 0, .int 0, .ref (ad 3), .ref (ad 5), .ref (ad 6), .int 0, .int 0, .ref (ad 7), .ref (ad 8), .ref (ad 9), .ref (ad 10), .int 0, .ref (ad 15), .ref (ad 16)]) := (up_ne e3 (by decide) c_2)
  refine xget E hQ 2 (by decide) c_4 rfl 2 (by decide) q247 rfl dX1_copyFrom_18 ?_
  refine xputi E hs hQ 39 (by decide) u3 rfl 2 (by decide) q247 rfl rfl (Nat.le_of_ble_eq_true rfl) dX1_copyFrom_21 (fun H locs S5 e5 hQ => ?_)
  have u5 : S5 39 = .inr (1, [.int 0, .int 0, .int 0, .ref (ad 40), .ref (ad 42), .ref (ad 43), .int 0, .int 0, .ref (ad 44), .ref (ad 45), .ref (ad 46), .ref (ad 47), .int 0, .ref (ad 52), .ref (ad 53)]) := up_at e5 rfl
  refine lv_aload_n hx hb dX1_copyFrom_24 rfl (lv_at hl 0 rfl) ?_
  refine xget E hQ 39 (by decide) u5 rfl 3 (by decide) q251 rfl dX1_copyFrom_25 ?_
  refine lv_aload_n hx hb dX1_copyFrom_28 rfl (lv_at hl 1 rfl) ?_
  have c_6 : S5 2 = .inr (1, [.int 0, .int 0, .int 0, .ref (ad 3), .ref (ad 5), .ref (ad 6), .int 0, .int 0, .ref (ad 7), .ref (ad 8), .ref (ad 9), .ref (ad 10), .int 0, .ref (ad 15), .ref (ad 16)]) := (up_ne e5 (by decide) c_4)
  refine xget E hQ 2 (by decide) c_6 rfl 3 (by decide) q251 rfl dX1_copyFrom_29 ?_
  have c_7 : S5 3 = .inr (10, [.int 0, .int 0, .int 0, .int 0, .ref (ad 4)]) := (up_ne e5 (by decide) (up_ne e3 (by decide) (up_ne e1 (by decide) h3)))
  refine xget E hQ 3 (by decide) c_7 rfl 0 (by decide) q156 rfl dX1_copyFrom_32 ?_
  refine lv_aload_n hx hb dX1_copyFrom_35 rfl (lv_at hl 1 rfl) ?_
  refine xget E hQ 2 (by decide) c_6 rfl 3 (by decide) q251 rfl dX1_copyFrom_36 ?_
  refine xget E hQ 3 (by decide) c_7 rfl 1 (by decide) q159 rfl dX1_copyFrom_39 ?_
  refine lv_aload_n hx hb dX1_copyFrom_42 rfl (lv_at hl 1 rfl) ?_
  refine xget E hQ 2 (by decide) c_6 rfl 3 (by decide) q251 rfl dX1_copyFrom_43 ?_
  refine xget E hQ 3 (by decide) c_7 rfl 2 (by decide) q162 rfl dX1_copyFrom_46 ?_
  have c_8 : S5 41 = .inl (g.2 0, 36, .inl f41) := (up_ne e5 (by decide) (up_ne e3 (by decide) (up_ne e1 (by decide) h41)))
  have c_9 : S5 40 = .inr (10, [.int 0, .int 0, .int 0, .int 0, .ref (ad 41)]) := (up_ne e5 (by decide) (up_ne e3 (by decide) (up_ne e1 (by decide) h40)))
  refine xcVv E hs hQ hml hl.1 40 (tell_40 l g ad hD S5 f41 c_9 c_8) mX10_tell q592 (by decide) c_9 rfl rfl ⟨by decide, by decide⟩ ⟨by decide, by decide⟩ (Nat.le_of_ble_eq_true rfl) rfl dX1_copyFrom_49 (fun S10 H locs hp10 hQ _ => ?_)
  obtain ⟨o10, v10_40, ⟨f10_41, v10_41⟩⟩ := hp10
  refine lv_aload_n hx hb dX1_copyFrom_52 rfl (lv_at hl 1 rfl) ?_
  have c_11 : S10 2 = .inr (1, [.int 0, .int 0, .int 0, .ref (ad 3), .ref (ad 5), .ref (ad 6), .int 0, .int 0, .ref (ad 7), .ref (ad 8), .ref (ad 9), .ref (ad 10), .int 0, .ref (ad 15), .ref (ad 16)]) := ((o10 2 (by decide)).trans c_6)
  refine xget E hQ 2 (by decide) c_11 rfl 4 (by decide) q257 rfl dX1_copyFrom_53 ?_
  refine lv_iconst (v := 0) hx hb dX1_copyFrom_56 (by decide) ?_
  refine lv_aload_n hx hb dX1_copyFrom_57 rfl (lv_at hl 0 rfl) ?_
  have c_12 : S10 39 = .inr (1, [.int 0, .int 0, .int 0, .ref (ad 40), .ref (ad 42), .ref (ad 43), .int 0, .int 0, .ref (ad 44), .ref (ad 45), .ref (ad 46), .ref (ad 47), .int 0, .ref (ad 52), .ref (ad 53)]) := ((o10 39 (by decide)).trans u5)
  refine xget E hQ 39 (by decide) c_12 rfl 4 (by decide) q257 rfl dX1_copyFrom_58 ?_
  refine lv_iconst (v := 0) hx hb dX1_copyFrom_61 (by decide) ?_
  refine lv_bipush (v := 12) hx hb dX1_copyFrom_62 (by decide) ?_
  have c_13 : S10 5 = .inl (g.2 0, 12, .inl f5) := ((o10 5 (by decide)).trans (up_ne e5 (by decide) (up_ne e3 (by decide) (up_ne e1 (by decide) h5))))
  have c_14 : S10 42 = .inl (g.2 0, 12, .inl f42) := ((o10 42 (by decide)).trans (up_ne e5 (by decide) (up_ne e3 (by decide) (up_ne e1 (by decide) h42))))
  refine xcopyi E hs hQ hml hl.1 5 (by decide) 42 (by decide) c_13 c_14 q749 (by decide) (by decide) (by decide) (Nat.le_of_ble_eq_true rfl) (Nat.le_of_ble_eq_true rfl) (Nat.le_of_ble_eq_true rfl) (Nat.le_of_ble_eq_true rfl) dX1_copyFrom_64 (fun H locs S15 e15 hQ => ?_)
  have u15 : S15 42 = .inl (g.2 0, 12, .inl (va_cpy f5 f42 (0 : Int32).toNatClampNeg (0 : Int32).toNatClampNeg (12 : Int32).toNatClampNeg)) := up_at e15 rfl
  refine lv_aload_n hx hb dX1_copyFrom_67 rfl (lv_at hl 1 rfl) ?_
  have c_16 : S15 2 = .inr (1, [.int 0, .int 0, .int 0, .ref (ad 3), .ref (ad 5), .ref (ad 6), .int 0, .int 0, .ref (ad 7), .ref (ad 8), .ref (ad 9), .ref (ad 10), .int 0, .ref (ad 15), .ref (ad 16)]) := (up_ne e15 (by decide) c_11)
  refine xget E hQ 2 (by decide) c_16 rfl 5 (by decide) q260 rfl dX1_copyFrom_68 ?_
  refine lv_iconst (v := 0) hx hb dX1_copyFrom_71 (by decide) ?_
  refine lv_aload_n hx hb dX1_copyFrom_72 rfl (lv_at hl 0 rfl) ?_
  have c_17 : S15 39 = .inr (1, [.int 0, .int 0, .int 0, .ref (ad 40), .ref (ad 42), .ref (ad 43), .int 0, .int 0, .ref (ad 44), .ref (ad 45), .ref (ad 46), .ref (ad 47), .int 0, .ref (ad 52), .ref (ad 53)]) := (up_ne e15 (by decide) c_12)
  refine xget E hQ 39 (by decide) c_17 rfl 5 (by decide) q260 rfl dX1_copyFrom_73 ?_
  refine lv_iconst (v := 0) hx hb dX1_copyFrom_76 (by decide) ?_
  refine lv_bipush (v := 12) hx hb dX1_copyFrom_77 (by decide) ?_
  have c_18 : S15 6 = .inl (g.2 0, 12, .inl f6) := (up_ne e15 (by decide) ((o10 6 (by decide)).trans (up_ne e5 (by decide) (up_ne e3 (by decide) (up_ne e1 (by decide) h6)))))
  have c_19 : S15 43 = .inl (g.2 0, 12, .inl f43) := (up_ne e15 (by decide) ((o10 43 (by decide)).trans (up_ne e5 (by decide) (up_ne e3 (by decide) (up_ne e1 (by decide) h43)))))
  refine xcopyi E hs hQ hml hl.1 6 (by decide) 43 (by decide) c_18 c_19 q749 (by decide) (by decide) (by decide) (Nat.le_of_ble_eq_true rfl) (Nat.le_of_ble_eq_true rfl) (Nat.le_of_ble_eq_true rfl) (Nat.le_of_ble_eq_true rfl) dX1_copyFrom_79 (fun H locs S20 e20 hQ => ?_)
  have u20 : S20 43 = .inl (g.2 0, 12, .inl (va_cpy f6 f43 (0 : Int32).toNatClampNeg (0 : Int32).toNatClampNeg (12 : Int32).toNatClampNeg)) := up_at e20 rfl
  refine lv_aload_n hx hb dX1_copyFrom_82 rfl (lv_at hl 0 rfl) ?_
  refine lv_aload_n hx hb dX1_copyFrom_83 rfl (lv_at hl 1 rfl) ?_
  have c_21 : S20 2 = .inr (1, [.int 0, .int 0, .int 0, .ref (ad 3), .ref (ad 5), .ref (ad 6), .int 0, .int 0, .ref (ad 7), .ref (ad 8), .ref (ad 9), .ref (ad 10), .int 0, .ref (ad 15), .ref (ad 16)]) := (up_ne e20 (by decide) c_16)
  refine xget E hQ 2 (by decide) c_21 rfl 6 (by decide) q263 rfl dX1_copyFrom_84 ?_
  have c_22 : S20 39 = .inr (1, [.int 0, .int 0, .int 0, .ref (ad 40), .ref (ad 42), .ref (ad 43), .int 0, .int 0, .ref (ad 44), .ref (ad 45), .ref (ad 46), .ref (ad 47), .int 0, .ref (ad 52), .ref (ad 53)]) := (up_ne e20 (by decide) c_17)
  refine xputi E hs hQ 39 (by decide) c_22 rfl 6 (by decide) q263 rfl rfl (Nat.le_of_ble_eq_true rfl) dX1_copyFrom_87 (fun H locs S23 e23 hQ => ?_)
  have u23 : S23 39 = .inr (1, [.int 0, .int 0, .int 0, .ref (ad 40), .ref (ad 42), .ref (ad 43), .int 0, .int 0, .ref (ad 44), .ref (ad 45), .ref (ad 46), .ref (ad 47), .int 0, .ref (ad 52), .ref (ad 53)]) := up_at e23 rfl
  refine lv_aload_n hx hb dX1_copyFrom_90 rfl (lv_at hl 0 rfl) ?_
  refine lv_aload_n hx hb dX1_copyFrom_91 rfl (lv_at hl 1 rfl) ?_
  have c_24 : S23 2 = .inr (1, [.int 0, .int 0, .int 0, .ref (ad 3), .ref (ad 5), .ref (ad 6), .int 0, .int 0, .ref (ad 7), .ref (ad 8), .ref (ad 9), .ref (ad 10), .int 0, .ref (ad 15), .ref (ad 16)]) := (up_ne e23 (by decide) c_21)
  refine xget E hQ 2 (by decide) c_24 rfl 7 (by decide) q270 rfl dX1_copyFrom_92 ?_
  refine xputi E hs hQ 39 (by decide) u23 rfl 7 (by decide) q270 rfl rfl (Nat.le_of_ble_eq_true rfl) dX1_copyFrom_95 (fun H locs S25 e25 hQ => ?_)
  have u25 : S25 39 = .inr (1, [.int 0, .int 0, .int 0, .ref (ad 40), .ref (ad 42), .ref (ad 43), .int 0, .int 0, .ref (ad 44), .ref (ad 45), .ref (ad 46), .ref (ad 47), .int 0, .ref (ad 52), .ref (ad 53)]) := up_at e25 rfl
  refine lv_aload_n hx hb dX1_copyFrom_98 rfl (lv_at hl 1 rfl) ?_
  have c_26 : S25 2 = .inr (1, [.int 0, .int 0, .int 0, .ref (ad 3), .ref (ad 5), .ref (ad 6), .int 0, .int 0, .ref (ad 7), .ref (ad 8), .ref (ad 9), .ref (ad 10), .int 0, .ref (ad 15), .ref (ad 16)]) := (up_ne e25 (by decide) c_24)
  refine xget E hQ 2 (by decide) c_26 rfl 8 (by decide) q274 rfl dX1_copyFrom_99 ?_
  refine lv_iconst (v := 0) hx hb dX1_copyFrom_102 (by decide) ?_
  refine lv_aload_n hx hb dX1_copyFrom_103 rfl (lv_at hl 0 rfl) ?_
  refine xget E hQ 39 (by decide) u25 rfl 8 (by decide) q274 rfl dX1_copyFrom_104 ?_
  refine lv_iconst (v := 0) hx hb dX1_copyFrom_107 (by decide) ?_
  refine lv_bipush (v := 8) hx hb dX1_copyFrom_108 (by decide) ?_
  have c_27 : S25 7 = .inl (g.2 0, 8, .inl f7) := (up_ne e25 (by decide) (up_ne e23 (by decide) (up_ne e20 (by decide) (up_ne e15 (by decide) ((o10 7 (by decide)).trans (up_ne e5 (by decide) (up_ne e3 (by decide) (up_ne e1 (by decide) h7))))))))
  have c_28 : S25 44 = .inl (g.2 0, 8, .inl f44) := (up_ne e25 (by decide) (up_ne e23 (by decide) (up_ne e20 (by decide) (up_ne e15 (by decide) ((o10 44 (by decide)).trans (up_ne e5 (by decide) (up_ne e3 (by decide) (up_ne e1 (by decide) h44))))))))
  refine xcopyi E hs hQ hml hl.1 7 (by decide) 44 (by decide) c_27 c_28 q749 (by decide) (by decide) (by decide) (Nat.le_of_ble_eq_true rfl) (Nat.le_of_ble_eq_true rfl) (Nat.le_of_ble_eq_true rfl) (Nat.le_of_ble_eq_true rfl) dX1_copyFrom_110 (fun H locs S29 e29 hQ => ?_)
  have u29 : S29 44 = .inl (g.2 0, 8, .inl (va_cpy f7 f44 (0 : Int32).toNatClampNeg (0 : Int32).toNatClampNeg (8 : Int32).toNatClampNeg)) := up_at e29 rfl
  refine lv_aload_n hx hb dX1_copyFrom_113 rfl (lv_at hl 1 rfl) ?_
  have c_30 : S29 2 = .inr (1, [.int 0, .int 0, .int 0, .ref (ad 3), .ref (ad 5), .ref (ad 6), .int 0, .int 0, .ref (ad 7), .ref (ad 8), .ref (ad 9), .ref (ad 10), .int 0, .ref (ad 15), .ref (ad 16)]) := (up_ne e29 (by decide) c_26)
  refine xget E hQ 2 (by decide) c_30 rfl 9 (by decide) q279 rfl dX1_copyFrom_114 ?_
  refine lv_iconst (v := 0) hx hb dX1_copyFrom_117 (by decide) ?_
  refine lv_aload_n hx hb dX1_copyFrom_118 rfl (lv_at hl 0 rfl) ?_
  have c_31 : S29 39 = .inr (1, [.int 0, .int 0, .int 0, .ref (ad 40), .ref (ad 42), .ref (ad 43), .int 0, .int 0, .ref (ad 44), .ref (ad 45), .ref (ad 46), .ref (ad 47), .int 0, .ref (ad 52), .ref (ad 53)]) := (up_ne e29 (by decide) u25)
  refine xget E hQ 39 (by decide) c_31 rfl 9 (by decide) q279 rfl dX1_copyFrom_119 ?_
  refine lv_iconst (v := 0) hx hb dX1_copyFrom_122 (by decide) ?_
  refine lv_bipush (v := 8) hx hb dX1_copyFrom_123 (by decide) ?_
  have c_32 : S29 8 = .inl (g.2 0, 8, .inl f8) := (up_ne e29 (by decide) (up_ne e25 (by decide) (up_ne e23 (by decide) (up_ne e20 (by decide) (up_ne e15 (by decide) ((o10 8 (by decide)).trans (up_ne e5 (by decide) (up_ne e3 (by decide) (up_ne e1 (by decide) h8)))))))))
  have c_33 : S29 45 = .inl (g.2 0, 8, .inl f45) := (up_ne e29 (by decide) (up_ne e25 (by decide) (up_ne e23 (by decide) (up_ne e20 (by decide) (up_ne e15 (by decide) ((o10 45 (by decide)).trans (up_ne e5 (by decide) (up_ne e3 (by decide) (up_ne e1 (by decide) h45)))))))))
  refine xcopyi E hs hQ hml hl.1 8 (by decide) 45 (by decide) c_32 c_33 q749 (by decide) (by decide) (by decide) (Nat.le_of_ble_eq_true rfl) (Nat.le_of_ble_eq_true rfl) (Nat.le_of_ble_eq_true rfl) (Nat.le_of_ble_eq_true rfl) dX1_copyFrom_125 (fun H locs S34 e34 hQ => ?_)
  have u34 : S34 45 = .inl (g.2 0, 8, .inl (va_cpy f8 f45 (0 : Int32).toNatClampNeg (0 : Int32).toNatClampNeg (8 : Int32).toNatClampNeg)) := up_at e34 rfl
  refine lv_aload_n hx hb dX1_copyFrom_128 rfl (lv_at hl 1 rfl) ?_
  have c_35 : S34 2 = .inr (1, [.int 0, .int 0, .int 0, .ref (ad 3), .ref (ad 5), .ref (ad 6), .int 0, .int 0, .ref (ad 7), .ref (ad 8), .ref (ad 9), .ref (ad 10), .int 0, .ref (ad 15), .ref (ad 16)]) := (up_ne e34 (by decide) c_30)
  refine xget E hQ 2 (by decide) c_35 rfl 10 (by decide) q284 rfl dX1_copyFrom_129 ?_
  refine lv_iconst (v := 0) hx hb dX1_copyFrom_132 (by decide) ?_
  refine lv_aload_n hx hb dX1_copyFrom_133 rfl (lv_at hl 0 rfl) ?_
  have c_36 : S34 39 = .inr (1, [.int 0, .int 0, .int 0, .ref (ad 40), .ref (ad 42), .ref (ad 43), .int 0, .int 0, .ref (ad 44), .ref (ad 45), .ref (ad 46), .ref (ad 47), .int 0, .ref (ad 52), .ref (ad 53)]) := (up_ne e34 (by decide) c_31)
  refine xget E hQ 39 (by decide) c_36 rfl 10 (by decide) q284 rfl dX1_copyFrom_134 ?_
  refine lv_iconst (v := 0) hx hb dX1_copyFrom_137 (by decide) ?_
  refine lv_bipush (v := 8) hx hb dX1_copyFrom_138 (by decide) ?_
  have c_37 : S34 9 = .inl (g.2 0, 8, .inl f9) := (up_ne e34 (by decide) (up_ne e29 (by decide) (up_ne e25 (by decide) (up_ne e23 (by decide) (up_ne e20 (by decide) (up_ne e15 (by decide) ((o10 9 (by decide)).trans (up_ne e5 (by decide) (up_ne e3 (by decide) (up_ne e1 (by decide) h9))))))))))
  have c_38 : S34 46 = .inl (g.2 0, 8, .inl f46) := (up_ne e34 (by decide) (up_ne e29 (by decide) (up_ne e25 (by decide) (up_ne e23 (by decide) (up_ne e20 (by decide) (up_ne e15 (by decide) ((o10 46 (by decide)).trans (up_ne e5 (by decide) (up_ne e3 (by decide) (up_ne e1 (by decide) h46))))))))))
  refine xcopyi E hs hQ hml hl.1 9 (by decide) 46 (by decide) c_37 c_38 q749 (by decide) (by decide) (by decide) (Nat.le_of_ble_eq_true rfl) (Nat.le_of_ble_eq_true rfl) (Nat.le_of_ble_eq_true rfl) (Nat.le_of_ble_eq_true rfl) dX1_copyFrom_140 (fun H locs S39 e39 hQ => ?_)
  have u39 : S39 46 = .inl (g.2 0, 8, .inl (va_cpy f9 f46 (0 : Int32).toNatClampNeg (0 : Int32).toNatClampNeg (8 : Int32).toNatClampNeg)) := up_at e39 rfl
  refine lv_aload_n hx hb dX1_copyFrom_143 rfl (lv_at hl 0 rfl) ?_
  have c_40 : S39 39 = .inr (1, [.int 0, .int 0, .int 0, .ref (ad 40), .ref (ad 42), .ref (ad 43), .int 0, .int 0, .ref (ad 44), .ref (ad 45), .ref (ad 46), .ref (ad 47), .int 0, .ref (ad 52), .ref (ad 53)]) := (up_ne e39 (by decide) c_36)
  refine xget E hQ 39 (by decide) c_40 rfl 11 (by decide) q289 rfl dX1_copyFrom_144 ?_
  refine lv_aload_n hx hb dX1_copyFrom_147 rfl (lv_at hl 1 rfl) ?_
  have c_41 : S39 2 = .inr (1, [.int 0, .int 0, .int 0, .ref (ad 3), .ref (ad 5), .ref (ad 6), .int 0, .int 0, .ref (ad 7), .ref (ad 8), .ref (ad 9), .ref (ad 10), .int 0, .ref (ad 15), .ref (ad 16)]) := (up_ne e39 (by decide) c_35)
  refine xget E hQ 2 (by decide) c_41 rfl 11 (by decide) q289 rfl dX1_copyFrom_148 ?_
  have c_42 : S39 48 = .inl (g.2 0, 6, .inl f48) := (up_ne e39 (by decide) (up_ne e34 (by decide) (up_ne e29 (by decide) (up_ne e25 (by decide) (up_ne e23 (by decide) (up_ne e20 (by decide) (up_ne e15 (by decide) ((o10 48 (by decide)).trans (up_ne e5 (by decide) (up_ne e3 (by decide) (up_ne e1 (by decide) h48)))))))))))
  have c_43 : S39 49 = .inl (g.2 0, 6, .inl f49) := (up_ne e39 (by decide) (up_ne e34 (by decide) (up_ne e29 (by decide) (up_ne e25 (by decide) (up_ne e23 (by decide) (up_ne e20 (by decide) (up_ne e15 (by decide) ((o10 49 (by decide)).trans (up_ne e5 (by decide) (up_ne e3 (by decide) (up_ne e1 (by decide) h49)))))))))))
  have c_44 : S39 50 = .inl (g.2 0, 6, .inl f50) := (up_ne e39 (by decide) (up_ne e34 (by decide) (up_ne e29 (by decide) (up_ne e25 (by decide) (up_ne e23 (by decide) (up_ne e20 (by decide) (up_ne e15 (by decide) ((o10 50 (by decide)).trans (up_ne e5 (by decide) (up_ne e3 (by decide) (up_ne e1 (by decide) h50)))))))))))
  have c_45 : S39 51 = .inl (g.2 0, 6, .inl f51) := (up_ne e39 (by decide) (up_ne e34 (by decide) (up_ne e29 (by decide) (up_ne e25 (by decide) (up_ne e23 (by decide) (up_ne e20 (by decide) (up_ne e15 (by decide) ((o10 51 (by decide)).trans (up_ne e5 (by decide) (up_ne e3 (by decide) (up_ne e1 (by decide) h51)))))))))))
  have c_46 : S39 11 = .inl (g.2 0, 6, .inl f11) := (up_ne e39 (by decide) (up_ne e34 (by decide) (up_ne e29 (by decide) (up_ne e25 (by decide) (up_ne e23 (by decide) (up_ne e20 (by decide) (up_ne e15 (by decide) ((o10 11 (by decide)).trans (up_ne e5 (by decide) (up_ne e3 (by decide) (up_ne e1 (by decide) h11)))))))))))
  have c_47 : S39 12 = .inl (g.2 0, 6, .inl f12) := (up_ne e39 (by decide) (up_ne e34 (by decide) (up_ne e29 (by decide) (up_ne e25 (by decide) (up_ne e23 (by decide) (up_ne e20 (by decide) (up_ne e15 (by decide) ((o10 12 (by decide)).trans (up_ne e5 (by decide) (up_ne e3 (by decide) (up_ne e1 (by decide) h12)))))))))))
  have c_48 : S39 13 = .inl (g.2 0, 6, .inl f13) := (up_ne e39 (by decide) (up_ne e34 (by decide) (up_ne e29 (by decide) (up_ne e25 (by decide) (up_ne e23 (by decide) (up_ne e20 (by decide) (up_ne e15 (by decide) ((o10 13 (by decide)).trans (up_ne e5 (by decide) (up_ne e3 (by decide) (up_ne e1 (by decide) h13)))))))))))
  have c_49 : S39 14 = .inl (g.2 0, 6, .inl f14) := (up_ne e39 (by decide) (up_ne e34 (by decide) (up_ne e29 (by decide) (up_ne e25 (by decide) (up_ne e23 (by decide) (up_ne e20 (by decide) (up_ne e15 (by decide) ((o10 14 (by decide)).trans (up_ne e5 (by decide) (up_ne e3 (by decide) (up_ne e1 (by decide) h14)))))))))))
  have c_50 : S39 47 = .inr (6, [.int 0, .ref (ad 48), .ref (ad 49), .ref (ad 50), .ref (ad 51)]) := (up_ne e39 (by decide) (up_ne e34 (by decide) (up_ne e29 (by decide) (up_ne e25 (by decide) (up_ne e23 (by decide) (up_ne e20 (by decide) (up_ne e15 (by decide) ((o10 47 (by decide)).trans (up_ne e5 (by decide) (up_ne e3 (by decide) (up_ne e1 (by decide) h47)))))))))))
  have c_51 : S39 10 = .inr (6, [.int 0, .ref (ad 11), .ref (ad 12), .ref (ad 13), .ref (ad 14)]) := (up_ne e39 (by decide) (up_ne e34 (by decide) (up_ne e29 (by decide) (up_ne e25 (by decide) (up_ne e23 (by decide) (up_ne e20 (by decide) (up_ne e15 (by decide) ((o10 10 (by decide)).trans (up_ne e5 (by decide) (up_ne e3 (by decide) (up_ne e1 (by decide) h10)))))))))))
  refine xcVv E hs hQ hml hl.1 47 (rbCopy_39_2 l g ad hD S39 f48 f49 f50 f51 f11 f12 f13 f14 c_50 c_51 c_42 c_43 c_44 c_45 c_46 c_47 c_48 c_49) mX6_copyFrom q752 (by decide) c_50 rfl rfl ⟨by decide, by decide⟩ ⟨by decide, by decide⟩ (Nat.le_of_ble_eq_true rfl) rfl dX1_copyFrom_151 (fun S52 H locs hp52 hQ _ => ?_)
  obtain ⟨o52, v52_47, ⟨f52_48, v52_48⟩, ⟨f52_49, v52_49⟩, ⟨f52_50, v52_50⟩, ⟨f52_51, v52_51⟩⟩ := hp52
  refine lv_aload_n hx hb dX1_copyFrom_154 rfl (lv_at hl 0 rfl) ?_
  refine lv_aload_n hx hb dX1_copyFrom_155 rfl (lv_at hl 1 rfl) ?_
  have c_53 : S52 2 = .inr (1, [.int 0, .int 0, .int 0, .ref (ad 3), .ref (ad 5), .ref (ad 6), .int 0, .int 0, .ref (ad 7), .ref (ad 8), .ref (ad 9), .ref (ad 10), .int 0, .ref (ad 15), .ref (ad 16)]) := ((o52 2 (by decide)).trans c_41)
  refine xget E hQ 2 (by decide) c_53 rfl 12 (by decide) q293 rfl dX1_copyFrom_156 ?_
  have c_54 : S52 39 = .inr (1, [.int 0, .int 0, .int 0, .ref (ad 40), .ref (ad 42), .ref (ad 43), .int 0, .int 0, .ref (ad 44), .ref (ad 45), .ref (ad 46), .ref (ad 47), .int 0, .ref (ad 52), .ref (ad 53)]) := ((o52 39 (by decide)).trans c_40)
  refine xputi E hs hQ 39 (by decide) c_54 rfl 12 (by decide) q293 rfl rfl (Nat.le_of_ble_eq_true rfl) dX1_copyFrom_159 (fun H locs S55 e55 hQ => ?_)
  have u55 : S55 39 = .inr (1, [.int 0, .int 0, .int 0, .ref (ad 40), .ref (ad 42), .ref (ad 43), .int 0, .int 0, .ref (ad 44), .ref (ad 45), .ref (ad 46), .ref (ad 47), .int 0, .ref (ad 52), .ref (ad 53)]) := up_at e55 rfl
  refine lv_aload_n hx hb dX1_copyFrom_162 rfl (lv_at hl 1 rfl) ?_
  have c_56 : S55 2 = .inr (1, [.int 0, .int 0, .int 0, .ref (ad 3), .ref (ad 5), .ref (ad 6), .int 0, .int 0, .ref (ad 7), .ref (ad 8), .ref (ad 9), .ref (ad 10), .int 0, .ref (ad 15), .ref (ad 16)]) := (up_ne e55 (by decide) c_53)
  refine xget E hQ 2 (by decide) c_56 rfl 13 (by decide) q297 rfl dX1_copyFrom_163 ?_
  refine lv_iconst (v := 0) hx hb dX1_copyFrom_166 (by decide) ?_
  refine lv_aload_n hx hb dX1_copyFrom_167 rfl (lv_at hl 0 rfl) ?_
  refine xget E hQ 39 (by decide) u55 rfl 13 (by decide) q297 rfl dX1_copyFrom_168 ?_
  refine lv_iconst (v := 0) hx hb dX1_copyFrom_171 (by decide) ?_
  refine lv_iconst (v := 3) hx hb dX1_copyFrom_172 (by decide) ?_
  have c_57 : S55 15 = .inl (g.2 0, 3, .inl f15) := (up_ne e55 (by decide) ((o52 15 (by decide)).trans (up_ne e39 (by decide) (up_ne e34 (by decide) (up_ne e29 (by decide) (up_ne e25 (by decide) (up_ne e23 (by decide) (up_ne e20 (by decide) (up_ne e15 (by decide) ((o10 15 (by decide)).trans (up_ne e5 (by decide) (up_ne e3 (by decide) (up_ne e1 (by decide) h15)))))))))))))
  have c_58 : S55 52 = .inl (g.2 0, 3, .inl f52) := (up_ne e55 (by decide) ((o52 52 (by decide)).trans (up_ne e39 (by decide) (up_ne e34 (by decide) (up_ne e29 (by decide) (up_ne e25 (by decide) (up_ne e23 (by decide) (up_ne e20 (by decide) (up_ne e15 (by decide) ((o10 52 (by decide)).trans (up_ne e5 (by decide) (up_ne e3 (by decide) (up_ne e1 (by decide) h52)))))))))))))
  refine xcopyi E hs hQ hml hl.1 15 (by decide) 52 (by decide) c_57 c_58 q749 (by decide) (by decide) (by decide) (Nat.le_of_ble_eq_true rfl) (Nat.le_of_ble_eq_true rfl) (Nat.le_of_ble_eq_true rfl) (Nat.le_of_ble_eq_true rfl) dX1_copyFrom_173 (fun H locs S59 e59 hQ => ?_)
  have u59 : S59 52 = .inl (g.2 0, 3, .inl (va_cpy f15 f52 (0 : Int32).toNatClampNeg (0 : Int32).toNatClampNeg (3 : Int32).toNatClampNeg)) := up_at e59 rfl
  refine lv_aload_n hx hb dX1_copyFrom_176 rfl (lv_at hl 0 rfl) ?_
  have c_60 : S59 39 = .inr (1, [.int 0, .int 0, .int 0, .ref (ad 40), .ref (ad 42), .ref (ad 43), .int 0, .int 0, .ref (ad 44), .ref (ad 45), .ref (ad 46), .ref (ad 47), .int 0, .ref (ad 52), .ref (ad 53)]) := (up_ne e59 (by decide) u55)
  refine xget E hQ 39 (by decide) c_60 rfl 14 (by decide) q301 rfl dX1_copyFrom_177 ?_
  refine lv_aload_n hx hb dX1_copyFrom_180 rfl (lv_at hl 1 rfl) ?_
  have c_61 : S59 2 = .inr (1, [.int 0, .int 0, .int 0, .ref (ad 3), .ref (ad 5), .ref (ad 6), .int 0, .int 0, .ref (ad 7), .ref (ad 8), .ref (ad 9), .ref (ad 10), .int 0, .ref (ad 15), .ref (ad 16)]) := (up_ne e59 (by decide) c_56)
  refine xget E hQ 2 (by decide) c_61 rfl 14 (by decide) q301 rfl dX1_copyFrom_181 ?_
  have c_62 : S59 54 = .inl (g.2 0, 40, .inl f54) := (up_ne e59 (by decide) (up_ne e55 (by decide) ((o52 54 (by decide)).trans (up_ne e39 (by decide) (up_ne e34 (by decide) (up_ne e29 (by decide) (up_ne e25 (by decide) (up_ne e23 (by decide) (up_ne e20 (by decide) (up_ne e15 (by decide) ((o10 54 (by decide)).trans (up_ne e5 (by decide) (up_ne e3 (by decide) (up_ne e1 (by decide) h54))))))))))))))
  have c_63 : S59 55 = .inl (g.2 0, 40, .inl f55) := (up_ne e59 (by decide) (up_ne e55 (by decide) ((o52 55 (by decide)).trans (up_ne e39 (by decide) (up_ne e34 (by decide) (up_ne e29 (by decide) (up_ne e25 (by decide) (up_ne e23 (by decide) (up_ne e20 (by decide) (up_ne e15 (by decide) ((o10 55 (by decide)).trans (up_ne e5 (by decide) (up_ne e3 (by decide) (up_ne e1 (by decide) h55))))))))))))))
  have c_64 : S59 56 = .inl (g.2 0, 40, .inl f56) := (up_ne e59 (by decide) (up_ne e55 (by decide) ((o52 56 (by decide)).trans (up_ne e39 (by decide) (up_ne e34 (by decide) (up_ne e29 (by decide) (up_ne e25 (by decide) (up_ne e23 (by decide) (up_ne e20 (by decide) (up_ne e15 (by decide) ((o10 56 (by decide)).trans (up_ne e5 (by decide) (up_ne e3 (by decide) (up_ne e1 (by decide) h56))))))))))))))
  have c_65 : S59 17 = .inl (g.2 0, 40, .inl f17) := (up_ne e59 (by decide) (up_ne e55 (by decide) ((o52 17 (by decide)).trans (up_ne e39 (by decide) (up_ne e34 (by decide) (up_ne e29 (by decide) (up_ne e25 (by decide) (up_ne e23 (by decide) (up_ne e20 (by decide) (up_ne e15 (by decide) ((o10 17 (by decide)).trans (up_ne e5 (by decide) (up_ne e3 (by decide) (up_ne e1 (by decide) h17))))))))))))))
  have c_66 : S59 18 = .inl (g.2 0, 40, .inl f18) := (up_ne e59 (by decide) (up_ne e55 (by decide) ((o52 18 (by decide)).trans (up_ne e39 (by decide) (up_ne e34 (by decide) (up_ne e29 (by decide) (up_ne e25 (by decide) (up_ne e23 (by decide) (up_ne e20 (by decide) (up_ne e15 (by decide) ((o10 18 (by decide)).trans (up_ne e5 (by decide) (up_ne e3 (by decide) (up_ne e1 (by decide) h18))))))))))))))
  have c_67 : S59 19 = .inl (g.2 0, 40, .inl f19) := (up_ne e59 (by decide) (up_ne e55 (by decide) ((o52 19 (by decide)).trans (up_ne e39 (by decide) (up_ne e34 (by decide) (up_ne e29 (by decide) (up_ne e25 (by decide) (up_ne e23 (by decide) (up_ne e20 (by decide) (up_ne e15 (by decide) ((o10 19 (by decide)).trans (up_ne e5 (by decide) (up_ne e3 (by decide) (up_ne e1 (by decide) h19))))))))))))))
  have c_68 : S59 53 = .inr (0, [.int 0, .ref (ad 54), .ref (ad 55), .ref (ad 56)]) := (up_ne e59 (by decide) (up_ne e55 (by decide) ((o52 53 (by decide)).trans (up_ne e39 (by decide) (up_ne e34 (by decide) (up_ne e29 (by decide) (up_ne e25 (by decide) (up_ne e23 (by decide) (up_ne e20 (by decide) (up_ne e15 (by decide) ((o10 53 (by decide)).trans (up_ne e5 (by decide) (up_ne e3 (by decide) (up_ne e1 (by decide) h53))))))))))))))
  have c_69 : S59 16 = .inr (0, [.int 0, .ref (ad 17), .ref (ad 18), .ref (ad 19)]) := (up_ne e59 (by decide) (up_ne e55 (by decide) ((o52 16 (by decide)).trans (up_ne e39 (by decide) (up_ne e34 (by decide) (up_ne e29 (by decide) (up_ne e25 (by decide) (up_ne e23 (by decide) (up_ne e20 (by decide) (up_ne e15 (by decide) ((o10 16 (by decide)).trans (up_ne e5 (by decide) (up_ne e3 (by decide) (up_ne e1 (by decide) h16))))))))))))))
  refine xcVv E hs hQ hml hl.1 53 (acCopy_39_2 l g ad hD S59 f54 f55 f56 f17 f18 f19 c_68 c_69 c_62 c_63 c_64 c_65 c_66 c_67) mX0_copyFrom q757 (by decide) c_68 rfl rfl ⟨by decide, by decide⟩ ⟨by decide, by decide⟩ (Nat.le_of_ble_eq_true rfl) rfl dX1_copyFrom_184 (fun S70 H locs hp70 hQ _ => ?_)
  obtain ⟨o70, v70_53, ⟨f70_54, v70_54⟩, ⟨f70_55, v70_55⟩, ⟨f70_56, v70_56⟩⟩ := hp70
  have c_71 : S70 39 = .inr (1, [.int 0, .int 0, .int 0, .ref (ad 40), .ref (ad 42), .ref (ad 43), .int 0, .int 0, .ref (ad 44), .ref (ad 45), .ref (ad 46), .ref (ad 47), .int 0, .ref (ad 52), .ref (ad 53)]) := ((o70 39 (by decide)).trans c_60)
  have c_72 : S70 40 = .inr (10, [.int 0, .int 0, .int 0, .int 0, .ref (ad 41)]) := ((o70 40 (by decide)).trans (up_ne e59 (by decide) (up_ne e55 (by decide) ((o52 40 (by decide)).trans (up_ne e39 (by decide) (up_ne e34 (by decide) (up_ne e29 (by decide) (up_ne e25 (by decide) (up_ne e23 (by decide) (up_ne e20 (by decide) (up_ne e15 (by decide) v10_40)))))))))))
  have c_73 : S70 41 = .inl (g.2 0, 36, .inl f10_41) := ((o70 41 (by decide)).trans (up_ne e59 (by decide) (up_ne e55 (by decide) ((o52 41 (by decide)).trans (up_ne e39 (by decide) (up_ne e34 (by decide) (up_ne e29 (by decide) (up_ne e25 (by decide) (up_ne e23 (by decide) (up_ne e20 (by decide) (up_ne e15 (by decide) v10_41)))))))))))
  have c_74 : S70 42 = .inl (g.2 0, 12, .inl (va_cpy f5 f42 (0 : Int32).toNatClampNeg (0 : Int32).toNatClampNeg (12 : Int32).toNatClampNeg)) := ((o70 42 (by decide)).trans (up_ne e59 (by decide) (up_ne e55 (by decide) ((o52 42 (by decide)).trans (up_ne e39 (by decide) (up_ne e34 (by decide) (up_ne e29 (by decide) (up_ne e25 (by decide) (up_ne e23 (by decide) (up_ne e20 (by decide) u15))))))))))
  have c_75 : S70 43 = .inl (g.2 0, 12, .inl (va_cpy f6 f43 (0 : Int32).toNatClampNeg (0 : Int32).toNatClampNeg (12 : Int32).toNatClampNeg)) := ((o70 43 (by decide)).trans (up_ne e59 (by decide) (up_ne e55 (by decide) ((o52 43 (by decide)).trans (up_ne e39 (by decide) (up_ne e34 (by decide) (up_ne e29 (by decide) (up_ne e25 (by decide) (up_ne e23 (by decide) u20)))))))))
  have c_76 : S70 44 = .inl (g.2 0, 8, .inl (va_cpy f7 f44 (0 : Int32).toNatClampNeg (0 : Int32).toNatClampNeg (8 : Int32).toNatClampNeg)) := ((o70 44 (by decide)).trans (up_ne e59 (by decide) (up_ne e55 (by decide) ((o52 44 (by decide)).trans (up_ne e39 (by decide) (up_ne e34 (by decide) u29))))))
  have c_77 : S70 45 = .inl (g.2 0, 8, .inl (va_cpy f8 f45 (0 : Int32).toNatClampNeg (0 : Int32).toNatClampNeg (8 : Int32).toNatClampNeg)) := ((o70 45 (by decide)).trans (up_ne e59 (by decide) (up_ne e55 (by decide) ((o52 45 (by decide)).trans (up_ne e39 (by decide) u34)))))
  have c_78 : S70 46 = .inl (g.2 0, 8, .inl (va_cpy f9 f46 (0 : Int32).toNatClampNeg (0 : Int32).toNatClampNeg (8 : Int32).toNatClampNeg)) := ((o70 46 (by decide)).trans (up_ne e59 (by decide) (up_ne e55 (by decide) ((o52 46 (by decide)).trans u39))))
  have c_79 : S70 47 = .inr (6, [.int 0, .ref (ad 48), .ref (ad 49), .ref (ad 50), .ref (ad 51)]) := ((o70 47 (by decide)).trans (up_ne e59 (by decide) (up_ne e55 (by decide) v52_47)))
  have c_80 : S70 48 = .inl (g.2 0, 6, .inl f52_48) := ((o70 48 (by decide)).trans (up_ne e59 (by decide) (up_ne e55 (by decide) v52_48)))
  have c_81 : S70 49 = .inl (g.2 0, 6, .inl f52_49) := ((o70 49 (by decide)).trans (up_ne e59 (by decide) (up_ne e55 (by decide) v52_49)))
  have c_82 : S70 50 = .inl (g.2 0, 6, .inl f52_50) := ((o70 50 (by decide)).trans (up_ne e59 (by decide) (up_ne e55 (by decide) v52_50)))
  have c_83 : S70 51 = .inl (g.2 0, 6, .inl f52_51) := ((o70 51 (by decide)).trans (up_ne e59 (by decide) (up_ne e55 (by decide) v52_51)))
  have c_84 : S70 52 = .inl (g.2 0, 3, .inl (va_cpy f15 f52 (0 : Int32).toNatClampNeg (0 : Int32).toNatClampNeg (3 : Int32).toNatClampNeg)) := ((o70 52 (by decide)).trans u59)
  exact xrv E hr hlk hQ (⟨fun j hj => ((o70 j (fun h => hj ((by decide : ∀ x ∈ ([53, 54, 55, 56] : List Nat), x ∈ ([39, 40, 41, 42, 43, 44, 45, 46, 47, 48, 49, 50, 51, 52, 53, 54, 55, 56] : List Nat)) j h))).trans (up_ne e59 (fun h => hj (by subst h; decide)) (up_ne e55 (fun h => hj (by subst h; decide)) ((o52 j (fun h => hj ((by decide : ∀ x ∈ ([47, 48, 49, 50, 51] : List Nat), x ∈ ([39, 40, 41, 42, 43, 44, 45, 46, 47, 48, 49, 50, 51, 52, 53, 54, 55, 56] : List Nat)) j h))).trans (up_ne e39 (fun h => hj (by subst h; decide)) (up_ne e34 (fun h => hj (by subst h; decide)) (up_ne e29 (fun h => hj (by subst h; decide)) (up_ne e25 (fun h => hj (by subst h; decide)) (up_ne e23 (fun h => hj (by subst h; decide)) (up_ne e20 (fun h => hj (by subst h; decide)) (up_ne e15 (fun h => hj (by subst h; decide)) ((o10 j (fun h => hj ((by decide : ∀ x ∈ ([40, 41] : List Nat), x ∈ ([39, 40, 41, 42, 43, 44, 45, 46, 47, 48, 49, 50, 51, 52, 53, 54, 55, 56] : List Nat)) j h))).trans (up_ne e5 (fun h => hj (by subst h; decide)) (up_ne e3 (fun h => hj (by subst h; decide)) (up_ne e1 (fun h => hj (by subst h; decide)) rfl))))))))))))))), c_71, c_72, ⟨_, c_73⟩, ⟨_, c_74⟩, ⟨_, c_75⟩, ⟨_, c_76⟩, ⟨_, c_77⟩, ⟨_, c_78⟩, c_79, ⟨_, c_80⟩, ⟨_, c_81⟩, ⟨_, c_82⟩, ⟨_, c_83⟩, ⟨_, c_84⟩, v70_53, ⟨_, v70_54⟩, ⟨_, v70_55⟩, ⟨_, v70_56⟩⟩) dX1_copyFrom_187
set_option maxHeartbeats 4000000 in
set_option maxRecDepth 100000 in
theorem rbCopy_57_2 (l : Launch) (g : GG) (ad : Nat → Nat) (hD : Dj ad 122) (S : SS) (f66 : Nat → Int32) (f67 : Nat → Int32) (f68 : Nat → Int32) (f69 : Nat → Int32) (f11 : Nat → Int32) (f12 : Nat → Int32) (f13 : Nat → Int32) (f14 : Nat → Int32) (h65 : S 65 = .inr (6, [.int 0, .ref (ad 66), .ref (ad 67), .ref (ad 68), .ref (ad 69)])) (h10 : S 10 = .inr (6, [.int 0, .ref (ad 11), .ref (ad 12), .ref (ad 13), .ref (ad 14)])) (h66 : S 66 = .inl (g.2 0, 6, .inl f66)) (h67 : S 67 = .inl (g.2 0, 6, .inl f67)) (h68 : S 68 = .inl (g.2 0, 6, .inl f68)) (h69 : S 69 = .inl (g.2 0, 6, .inl f69)) (h11 : S 11 = .inl (g.2 0, 6, .inl f11)) (h12 : S 12 = .inl (g.2 0, 6, .inl f12)) (h13 : S 13 = .inl (g.2 0, 6, .inl f13)) (h14 : S 14 = .inl (g.2 0, 6, .inl f14)) : Met l yX6_copyFrom (wG (.code yX6_copyFrom cX6_copyFrom 2 none)) (Rm 1) (XPre g ad 122 S [.ref (ad 65), .ref (ad 10)]) (va_Qv (fun S' => (∀ j, j ∉ ([65, 66, 67, 68, 69] : List Nat) → S' j = S j) ∧ S' 65 = .inr (6, [.int 0, .ref (ad 66), .ref (ad 67), .ref (ad 68), .ref (ad 69)]) ∧ (∃ f : Nat → Int32, S' 66 = .inl (g.2 0, 6, .inl f)) ∧ (∃ f : Nat → Int32, S' 67 = .inl (g.2 0, 6, .inl f)) ∧ (∃ f : Nat → Int32, S' 68 = .inl (g.2 0, 6, .inl f)) ∧ (∃ f : Nat → Int32, S' 69 = .inl (g.2 0, 6, .inl f))) (QB g ad 122) (FA ad 122)) 0 0 (FA ad 122) := by
  refine xmet cX6_copyFrom "EbbWreck$RuleBook" (by decide) rfl (Nat.le_of_ble_eq_true rfl) (fun p e s m below meth c E hr hlk hml hQ ls hl => ?_)
  have hx := E.1
  have hb := E.2.1
  have hs : Sp ad 122 (FA ad 122) := Sp.fa hD
  have hl : lv_has ls 2 [(0, .ref (ad 65)), (1, .ref (ad 10))] := hl
  refine lv_aload_n hx hb dX6_copyFrom_0 rfl (lv_at hl 0 rfl) ?_
  refine lv_aload_n hx hb dX6_copyFrom_1 rfl (lv_at hl 1 rfl) ?_
  refine xget E hQ 10 (by decide) h10 rfl 0 (by decide) q186 rfl dX6_copyFrom_2 ?_
  refine xputi E hs hQ 65 (by decide) h65 rfl 0 (by decide) q186 rfl rfl (Nat.le_of_ble_eq_true rfl) dX6_copyFrom_5 (fun H locs S1 e1 hQ => ?_)
  have u1 : S1 65 = .inr (6, [.int 0, .ref (ad 66), .ref (ad 67), .ref (ad 68), .ref (ad 69)]) := up_at e1 rfl
  refine lv_aload_n hx hb dX6_copyFrom_8 rfl (lv_at hl 1 rfl) ?_
  have c_2 : S1 10 = .inr (6, [.int 0, .ref (ad 11), .ref (ad 12), .ref (ad 13), .ref (ad 14)]) := (up_ne e1 (by decide) h10)
  refine xget E hQ 10 (by decide) c_2 rfl 1 (by decide) q189 rfl dX6_copyFrom_9 ?_
  refine lv_iconst (v := 0) hx hb dX6_copyFrom_12 (by decide) ?_
  refine lv_aload_n hx hb dX6_copyFrom_13 rfl (lv_at hl 0 rfl) ?_
  refine xget E hQ 65 (by decide) u1 rfl 1 (by decide) q189 rfl dX6_copyFrom_14 ?_
  refine lv_iconst (v := 0) hx hb dX6_copyFrom_17 (by decide) ?_
  refine lv_bipush (v := 6) hx hb dX6_copyFrom_18 (by decide) ?_
  have c_3 : S1 11 = .inl (g.2 0, 6, .inl f11) := (up_ne e1 (by decide) h11)
  have c_4 : S1 66 = .inl (g.2 0, 6, .inl f66) := (up_ne e1 (by decide) h66)
  refine xcopyi E hs hQ hml hl.1 11 (by decide) 66 (by decide) c_3 c_4 q756 (by decide) (by decide) (by decide) (Nat.le_of_ble_eq_true rfl) (Nat.le_of_ble_eq_true rfl) (Nat.le_of_ble_eq_true rfl) (Nat.le_of_ble_eq_true rfl) dX6_copyFrom_20 (fun H locs S5 e5 hQ => ?_)
  have u5 : S5 66 = .inl (g.2 0, 6, .inl (va_cpy f11 f66 (0 : Int32).toNatClampNeg (0 : Int32).toNatClampNeg (6 : Int32).toNatClampNeg)) := up_at e5 rfl
  refine lv_aload_n hx hb dX6_copyFrom_23 rfl (lv_at hl 1 rfl) ?_
  have c_6 : S5 10 = .inr (6, [.int 0, .ref (ad 11), .ref (ad 12), .ref (ad 13), .ref (ad 14)]) := (up_ne e5 (by decide) c_2)
  refine xget E hQ 10 (by decide) c_6 rfl 2 (by decide) q191 rfl dX6_copyFrom_24 ?_
  refine lv_iconst (v := 0) hx hb dX6_copyFrom_27 (by decide) ?_
  refine lv_aload_n hx hb dX6_copyFrom_28 rfl (lv_at hl 0 rfl) ?_
  have c_7 : S5 65 = .inr (6, [.int 0, .ref (ad 66), .ref (ad 67), .ref (ad 68), .ref (ad 69)]) := (up_ne e5 (by decide) u1)
  refine xget E hQ 65 (by decide) c_7 rfl 2 (by decide) q191 rfl dX6_copyFrom_29 ?_
  refine lv_iconst (v := 0) hx hb dX6_copyFrom_32 (by decide) ?_
  refine lv_bipush (v := 6) hx hb dX6_copyFrom_33 (by decide) ?_
  have c_8 : S5 12 = .inl (g.2 0, 6, .inl f12) := (up_ne e5 (by decide) (up_ne e1 (by decide) h12))
  have c_9 : S5 67 = .inl (g.2 0, 6, .inl f67) := (up_ne e5 (by decide) (up_ne e1 (by decide) h67))
  refine xcopyi E hs hQ hml hl.1 12 (by decide) 67 (by decide) c_8 c_9 q756 (by decide) (by decide) (by decide) (Nat.le_of_ble_eq_true rfl) (Nat.le_of_ble_eq_true rfl) (Nat.le_of_ble_eq_true rfl) (Nat.le_of_ble_eq_true rfl) dX6_copyFrom_35 (fun H locs S10 e10 hQ => ?_)
  have u10 : S10 67 = .inl (g.2 0, 6, .inl (va_cpy f12 f67 (0 : Int32).toNatClampNeg (0 : Int32).toNatClampNeg (6 : Int32).toNatClampNeg)) := up_at e10 rfl
  refine lv_aload_n hx hb dX6_copyFrom_38 rfl (lv_at hl 1 rfl) ?_
  have c_11 : S10 10 = .inr (6, [.int 0, .ref (ad 11), .ref (ad 12), .ref (ad 13), .ref (ad 14)]) := (up_ne e10 (by decide) c_6)
  refine xget E hQ 10 (by decide) c_11 rfl 3 (by decide) q193 rfl dX6_copyFrom_39 ?_
  refine lv_iconst (v := 0) hx hb dX6_copyFrom_42 (by decide) ?_
  refine lv_aload_n hx hb dX6_copyFrom_43 rfl (lv_at hl 0 rfl) ?_
  have c_12 : S10 65 = .inr (6, [.int 0, .ref (ad 66), .ref (ad 67), .ref (ad 68), .ref (ad 69)]) := (up_ne e10 (by decide) c_7)
  refine xget E hQ 65 (by decide) c_12 rfl 3 (by decide) q193 rfl dX6_copyFrom_44 ?_
  refine lv_iconst (v := 0) hx hb dX6_copyFrom_47 (by decide) ?_
  refine lv_bipush (v := 6) hx hb dX6_copyFrom_48 (by decide) ?_
  have c_13 : S10 13 = .inl (g.2 0, 6, .inl f13) := (up_ne e10 (by decide) (up_ne e5 (by decide) (up_ne e1 (by decide) h13)))
  have c_14 : S10 68 = .inl (g.2 0, 6, .inl f68) := (up_ne e10 (by decide) (up_ne e5 (by decide) (up_ne e1 (by decide) h68)))
  refine xcopyi E hs hQ hml hl.1 13 (by decide) 68 (by decide) c_13 c_14 q756 (by decide) (by decide) (by decide) (Nat.le_of_ble_eq_true rfl) (Nat.le_of_ble_eq_true rfl) (Nat.le_of_ble_eq_true rfl) (Nat.le_of_ble_eq_true rfl) dX6_copyFrom_50 (fun H locs S15 e15 hQ => ?_)
  have u15 : S15 68 = .inl (g.2 0, 6, .inl (va_cpy f13 f68 (0 : Int32).toNatClampNeg (0 : Int32).toNatClampNeg (6 : Int32).toNatClampNeg)) := up_at e15 rfl
  refine lv_aload_n hx hb dX6_copyFrom_53 rfl (lv_at hl 1 rfl) ?_
  have c_16 : S15 10 = .inr (6, [.int 0, .ref (ad 11), .ref (ad 12), .ref (ad 13), .ref (ad 14)]) := (up_ne e15 (by decide) c_11)
  refine xget E hQ 10 (by decide) c_16 rfl 4 (by decide) q195 rfl dX6_copyFrom_54 ?_
  refine lv_iconst (v := 0) hx hb dX6_copyFrom_57 (by decide) ?_
  refine lv_aload_n hx hb dX6_copyFrom_58 rfl (lv_at hl 0 rfl) ?_
  have c_17 : S15 65 = .inr (6, [.int 0, .ref (ad 66), .ref (ad 67), .ref (ad 68), .ref (ad 69)]) := (up_ne e15 (by decide) c_12)
  refine xget E hQ 65 (by decide) c_17 rfl 4 (by decide) q195 rfl dX6_copyFrom_59 ?_
  refine lv_iconst (v := 0) hx hb dX6_copyFrom_62 (by decide) ?_
  refine lv_bipush (v := 6) hx hb dX6_copyFrom_63 (by decide) ?_
  have c_18 : S15 14 = .inl (g.2 0, 6, .inl f14) := (up_ne e15 (by decide) (up_ne e10 (by decide) (up_ne e5 (by decide) (up_ne e1 (by decide) h14))))
  have c_19 : S15 69 = .inl (g.2 0, 6, .inl f69) := (up_ne e15 (by decide) (up_ne e10 (by decide) (up_ne e5 (by decide) (up_ne e1 (by decide) h69))))
  refine xcopyi E hs hQ hml hl.1 14 (by decide) 69 (by decide) c_18 c_19 q756 (by decide) (by decide) (by decide) (Nat.le_of_ble_eq_true rfl) (Nat.le_of_ble_eq_true rfl) (Nat.le_of_ble_eq_true rfl) (Nat.le_of_ble_eq_true rfl) dX6_copyFrom_65 (fun H locs S20 e20 hQ => ?_)
  have u20 : S20 69 = .inl (g.2 0, 6, .inl (va_cpy f14 f69 (0 : Int32).toNatClampNeg (0 : Int32).toNatClampNeg (6 : Int32).toNatClampNeg)) := up_at e20 rfl
  have c_21 : S20 65 = .inr (6, [.int 0, .ref (ad 66), .ref (ad 67), .ref (ad 68), .ref (ad 69)]) := (up_ne e20 (by decide) c_17)
  have c_22 : S20 66 = .inl (g.2 0, 6, .inl (va_cpy f11 f66 (0 : Int32).toNatClampNeg (0 : Int32).toNatClampNeg (6 : Int32).toNatClampNeg)) := (up_ne e20 (by decide) (up_ne e15 (by decide) (up_ne e10 (by decide) u5)))
  have c_23 : S20 67 = .inl (g.2 0, 6, .inl (va_cpy f12 f67 (0 : Int32).toNatClampNeg (0 : Int32).toNatClampNeg (6 : Int32).toNatClampNeg)) := (up_ne e20 (by decide) (up_ne e15 (by decide) u10))
  have c_24 : S20 68 = .inl (g.2 0, 6, .inl (va_cpy f13 f68 (0 : Int32).toNatClampNeg (0 : Int32).toNatClampNeg (6 : Int32).toNatClampNeg)) := (up_ne e20 (by decide) u15)
  exact xrv E hr hlk hQ (⟨fun j hj => (up_ne e20 (fun h => hj (by subst h; decide)) (up_ne e15 (fun h => hj (by subst h; decide)) (up_ne e10 (fun h => hj (by subst h; decide)) (up_ne e5 (fun h => hj (by subst h; decide)) (up_ne e1 (fun h => hj (by subst h; decide)) rfl))))), c_21, ⟨_, c_22⟩, ⟨_, c_23⟩, ⟨_, c_24⟩, ⟨_, u20⟩⟩) dX6_copyFrom_68
set_option maxHeartbeats 4000000 in
set_option maxRecDepth 100000 in
theorem acCopy_57_2 (l : Launch) (g : GG) (ad : Nat → Nat) (hD : Dj ad 122) (S : SS) (f72 : Nat → Int32) (f73 : Nat → Int32) (f74 : Nat → Int32) (f17 : Nat → Int32) (f18 : Nat → Int32) (f19 : Nat → Int32) (h71 : S 71 = .inr (0, [.int 0, .ref (ad 72), .ref (ad 73), .ref (ad 74)])) (h16 : S 16 = .inr (0, [.int 0, .ref (ad 17), .ref (ad 18), .ref (ad 19)])) (h72 : S 72 = .inl (g.2 0, 40, .inl f72)) (h73 : S 73 = .inl (g.2 0, 40, .inl f73)) (h74 : S 74 = .inl (g.2 0, 40, .inl f74)) (h17 : S 17 = .inl (g.2 0, 40, .inl f17)) (h18 : S 18 = .inl (g.2 0, 40, .inl f18)) (h19 : S 19 = .inl (g.2 0, 40, .inl f19)) : Met l yX0_copyFrom (wG (.code yX0_copyFrom cX0_copyFrom 2 none)) (Rm 1) (XPre g ad 122 S [.ref (ad 71), .ref (ad 16)]) (va_Qv (fun S' => (∀ j, j ∉ ([71, 72, 73, 74] : List Nat) → S' j = S j) ∧ S' 71 = .inr (0, [.int 0, .ref (ad 72), .ref (ad 73), .ref (ad 74)]) ∧ (∃ f : Nat → Int32, S' 72 = .inl (g.2 0, 40, .inl f)) ∧ (∃ f : Nat → Int32, S' 73 = .inl (g.2 0, 40, .inl f)) ∧ (∃ f : Nat → Int32, S' 74 = .inl (g.2 0, 40, .inl f))) (QB g ad 122) (FA ad 122)) 0 0 (FA ad 122) := by
  refine xmet cX0_copyFrom "EbbWreck$Acts" (by decide) rfl (Nat.le_of_ble_eq_true rfl) (fun p e s m below meth c E hr hlk hml hQ ls hl => ?_)
  have hx := E.1
  have hb := E.2.1
  have hs : Sp ad 122 (FA ad 122) := Sp.fa hD
  have hl : lv_has ls 2 [(0, .ref (ad 71)), (1, .ref (ad 16))] := hl
  refine lv_aload_n hx hb dX0_copyFrom_0 rfl (lv_at hl 0 rfl) ?_
  refine lv_aload_n hx hb dX0_copyFrom_1 rfl (lv_at hl 1 rfl) ?_
  refine xget E hQ 16 (by decide) h16 rfl 0 (by decide) q215 rfl dX0_copyFrom_2 ?_
  refine xputi E hs hQ 71 (by decide) h71 rfl 0 (by decide) q215 rfl rfl (Nat.le_of_ble_eq_true rfl) dX0_copyFrom_5 (fun H locs S1 e1 hQ => ?_)
  have u1 : S1 71 = .inr (0, [.int 0, .ref (ad 72), .ref (ad 73), .ref (ad 74)]) := up_at e1 rfl
  refine lv_aload_n hx hb dX0_copyFrom_8 rfl (lv_at hl 1 rfl) ?_
  have c_2 : S1 16 = .inr (0, [.int 0, .ref (ad 17), .ref (ad 18), .ref (ad 19)]) := (up_ne e1 (by decide) h16)
  refine xget E hQ 16 (by decide) c_2 rfl 1 (by decide) q219 rfl dX0_copyFrom_9 ?_
  refine lv_iconst (v := 0) hx hb dX0_copyFrom_12 (by decide) ?_
  refine lv_aload_n hx hb dX0_copyFrom_13 rfl (lv_at hl 0 rfl) ?_
  refine xget E hQ 71 (by decide) u1 rfl 1 (by decide) q219 rfl dX0_copyFrom_14 ?_
  refine lv_iconst (v := 0) hx hb dX0_copyFrom_17 (by decide) ?_
  refine lv_bipush (v := 40) hx hb dX0_copyFrom_18 (by decide) ?_
  have c_3 : S1 17 = .inl (g.2 0, 40, .inl f17) := (up_ne e1 (by decide) h17)
  have c_4 : S1 72 = .inl (g.2 0, 40, .inl f72) := (up_ne e1 (by decide) h72)
  refine xcopyi E hs hQ hml hl.1 17 (by decide) 72 (by decide) c_3 c_4 q761 (by decide) (by decide) (by decide) (Nat.le_of_ble_eq_true rfl) (Nat.le_of_ble_eq_true rfl) (Nat.le_of_ble_eq_true rfl) (Nat.le_of_ble_eq_true rfl) dX0_copyFrom_20 (fun H locs S5 e5 hQ => ?_)
  have u5 : S5 72 = .inl (g.2 0, 40, .inl (va_cpy f17 f72 (0 : Int32).toNatClampNeg (0 : Int32).toNatClampNeg (40 : Int32).toNatClampNeg)) := up_at e5 rfl
  refine lv_aload_n hx hb dX0_copyFrom_23 rfl (lv_at hl 1 rfl) ?_
  have c_6 : S5 16 = .inr (0, [.int 0, .ref (ad 17), .ref (ad 18), .ref (ad 19)]) := (up_ne e5 (by decide) c_2)
  refine xget E hQ 16 (by decide) c_6 rfl 2 (by decide) q222 rfl dX0_copyFrom_24 ?_
  refine lv_iconst (v := 0) hx hb dX0_copyFrom_27 (by decide) ?_
  refine lv_aload_n hx hb dX0_copyFrom_28 rfl (lv_at hl 0 rfl) ?_
  have c_7 : S5 71 = .inr (0, [.int 0, .ref (ad 72), .ref (ad 73), .ref (ad 74)]) := (up_ne e5 (by decide) u1)
  refine xget E hQ 71 (by decide) c_7 rfl 2 (by decide) q222 rfl dX0_copyFrom_29 ?_
  refine lv_iconst (v := 0) hx hb dX0_copyFrom_32 (by decide) ?_
  refine lv_bipush (v := 40) hx hb dX0_copyFrom_33 (by decide) ?_
  have c_8 : S5 18 = .inl (g.2 0, 40, .inl f18) := (up_ne e5 (by decide) (up_ne e1 (by decide) h18))
  have c_9 : S5 73 = .inl (g.2 0, 40, .inl f73) := (up_ne e5 (by decide) (up_ne e1 (by decide) h73))
  refine xcopyi E hs hQ hml hl.1 18 (by decide) 73 (by decide) c_8 c_9 q761 (by decide) (by decide) (by decide) (Nat.le_of_ble_eq_true rfl) (Nat.le_of_ble_eq_true rfl) (Nat.le_of_ble_eq_true rfl) (Nat.le_of_ble_eq_true rfl) dX0_copyFrom_35 (fun H locs S10 e10 hQ => ?_)
  have u10 : S10 73 = .inl (g.2 0, 40, .inl (va_cpy f18 f73 (0 : Int32).toNatClampNeg (0 : Int32).toNatClampNeg (40 : Int32).toNatClampNeg)) := up_at e10 rfl
  refine lv_aload_n hx hb dX0_copyFrom_38 rfl (lv_at hl 1 rfl) ?_
  have c_11 : S10 16 = .inr (0, [.int 0, .ref (ad 17), .ref (ad 18), .ref (ad 19)]) := (up_ne e10 (by decide) c_6)
  refine xget E hQ 16 (by decide) c_11 rfl 3 (by decide) q224 rfl dX0_copyFrom_39 ?_
  refine lv_iconst (v := 0) hx hb dX0_copyFrom_42 (by decide) ?_
  refine lv_aload_n hx hb dX0_copyFrom_43 rfl (lv_at hl 0 rfl) ?_
  have c_12 : S10 71 = .inr (0, [.int 0, .ref (ad 72), .ref (ad 73), .ref (ad 74)]) := (up_ne e10 (by decide) c_7)
  refine xget E hQ 71 (by decide) c_12 rfl 3 (by decide) q224 rfl dX0_copyFrom_44 ?_
  refine lv_iconst (v := 0) hx hb dX0_copyFrom_47 (by decide) ?_
  refine lv_bipush (v := 40) hx hb dX0_copyFrom_48 (by decide) ?_
  have c_13 : S10 19 = .inl (g.2 0, 40, .inl f19) := (up_ne e10 (by decide) (up_ne e5 (by decide) (up_ne e1 (by decide) h19)))
  have c_14 : S10 74 = .inl (g.2 0, 40, .inl f74) := (up_ne e10 (by decide) (up_ne e5 (by decide) (up_ne e1 (by decide) h74)))
  refine xcopyi E hs hQ hml hl.1 19 (by decide) 74 (by decide) c_13 c_14 q761 (by decide) (by decide) (by decide) (Nat.le_of_ble_eq_true rfl) (Nat.le_of_ble_eq_true rfl) (Nat.le_of_ble_eq_true rfl) (Nat.le_of_ble_eq_true rfl) dX0_copyFrom_50 (fun H locs S15 e15 hQ => ?_)
  have u15 : S15 74 = .inl (g.2 0, 40, .inl (va_cpy f19 f74 (0 : Int32).toNatClampNeg (0 : Int32).toNatClampNeg (40 : Int32).toNatClampNeg)) := up_at e15 rfl
  have c_16 : S15 71 = .inr (0, [.int 0, .ref (ad 72), .ref (ad 73), .ref (ad 74)]) := (up_ne e15 (by decide) c_12)
  have c_17 : S15 72 = .inl (g.2 0, 40, .inl (va_cpy f17 f72 (0 : Int32).toNatClampNeg (0 : Int32).toNatClampNeg (40 : Int32).toNatClampNeg)) := (up_ne e15 (by decide) (up_ne e10 (by decide) u5))
  have c_18 : S15 73 = .inl (g.2 0, 40, .inl (va_cpy f18 f73 (0 : Int32).toNatClampNeg (0 : Int32).toNatClampNeg (40 : Int32).toNatClampNeg)) := (up_ne e15 (by decide) u10)
  exact xrv E hr hlk hQ (⟨fun j hj => (up_ne e15 (fun h => hj (by subst h; decide)) (up_ne e10 (fun h => hj (by subst h; decide)) (up_ne e5 (fun h => hj (by subst h; decide)) (up_ne e1 (fun h => hj (by subst h; decide)) rfl)))), c_16, ⟨_, c_17⟩, ⟨_, c_18⟩, ⟨_, u15⟩⟩) dX0_copyFrom_53
set_option maxHeartbeats 4000000 in
set_option maxRecDepth 100000 in
theorem tell_58 (l : Launch) (g : GG) (ad : Nat → Nat) (hD : Dj ad 122) (S : SS) (f59 : Nat → Int32) (h58 : S 58 = .inr (10, [.int 0, .int 0, .int 0, .int 0, .ref (ad 59)])) (h59 : S 59 = .inl (g.2 0, 36, .inl f59)) : Met l yX10_tell (wG (.code yX10_tell cX10_tell 5 none)) (Rm 1) (XPre g ad 122 S [.ref (ad 58), .int 0, .int 0, .int 0]) (va_Qv (fun S' => (∀ j, j ∉ ([58, 59] : List Nat) → S' j = S j) ∧ S' 58 = .inr (10, [.int 0, .int 0, .int 0, .int 0, .ref (ad 59)]) ∧ (∃ f : Nat → Int32, S' 59 = .inl (g.2 0, 36, .inl f))) (QB g ad 122) (FA ad 122)) 0 0 (FA ad 122) := by
  refine xmet cX10_tell "EbbWreck$Tide" (by decide) rfl (Nat.le_of_ble_eq_true rfl) (fun p e s m below meth c E hr hlk hml hQ ls hl => ?_)
  have hx := E.1
  have hb := E.2.1
  have hs : Sp ad 122 (FA ad 122) := Sp.fa hD
  have hl : lv_has ls 5 [(0, .ref (ad 58)), (1, .int 0), (2, .int 0), (3, .int 0)] := hl
  refine lv_aload_n hx hb dX10_tell_0 rfl (lv_at hl 0 rfl) ?_
  refine lv_iload_n hx hb dX10_tell_1 rfl (lv_at hl 1 rfl) ?_
  refine xputi E hs hQ 58 (by decide) h58 rfl 0 (by decide) q155 rfl rfl (Nat.le_of_ble_eq_true rfl) dX10_tell_2 (fun H locs S1 e1 hQ => ?_)
  have u1 : S1 58 = .inr (10, [.int 0, .int 0, .int 0, .int 0, .ref (ad 59)]) := up_at e1 rfl
  refine lv_aload_n hx hb dX10_tell_5 rfl (lv_at hl 0 rfl) ?_
  refine lv_iload_n hx hb dX10_tell_6 rfl (lv_at hl 2 rfl) ?_
  refine xputi E hs hQ 58 (by decide) u1 rfl 1 (by decide) q158 rfl rfl (Nat.le_of_ble_eq_true rfl) dX10_tell_7 (fun H locs S2 e2 hQ => ?_)
  have u2 : S2 58 = .inr (10, [.int 0, .int 0, .int 0, .int 0, .ref (ad 59)]) := up_at e2 rfl
  refine lv_aload_n hx hb dX10_tell_10 rfl (lv_at hl 0 rfl) ?_
  refine lv_iload_n hx hb dX10_tell_11 rfl (lv_at hl 3 rfl) ?_
  refine xputi E hs hQ 58 (by decide) u2 rfl 2 (by decide) q161 rfl rfl (Nat.le_of_ble_eq_true rfl) dX10_tell_12 (fun H locs S3 e3 hQ => ?_)
  have u3 : S3 58 = .inr (10, [.int 0, .int 0, .int 0, .int 0, .ref (ad 59)]) := up_at e3 rfl
  refine lv_aload_n hx hb dX10_tell_15 rfl (lv_at hl 0 rfl) ?_
  refine lv_aload_n hx hb dX10_tell_16 rfl (lv_at hl 0 rfl) ?_
  refine xget E hQ 58 (by decide) u3 rfl 0 (by decide) q155 rfl dX10_tell_17 ?_
  refine lv_aload_n hx hb dX10_tell_20 rfl (lv_at hl 0 rfl) ?_
  refine xget E hQ 58 (by decide) u3 rfl 1 (by decide) q158 rfl dX10_tell_21 ?_
  refine lv_iadd hx hb dX10_tell_24 ?_
  refine sb_at (P := fun z => W _ _ _ _ _ _ _ _ _ _ _ _ _ _ _ (F0 _ _ _ (.int z :: _))) (show (0 : Int32) + 0 = 0 by decide) ?_
  refine lv_aload_n hx hb dX10_tell_25 rfl (lv_at hl 0 rfl) ?_
  refine xget E hQ 58 (by decide) u3 rfl 2 (by decide) q161 rfl dX10_tell_26 ?_
  refine lv_iadd hx hb dX10_tell_29 ?_
  refine sb_at (P := fun z => W _ _ _ _ _ _ _ _ _ _ _ _ _ _ _ (F0 _ _ _ (.int z :: _))) (show (0 : Int32) + 0 = 0 by decide) ?_
  refine lv_aload_n hx hb dX10_tell_30 rfl (lv_at hl 0 rfl) ?_
  refine xget E hQ 58 (by decide) u3 rfl 1 (by decide) q158 rfl dX10_tell_31 ?_
  refine lv_iadd hx hb dX10_tell_34 ?_
  refine sb_at (P := fun z => W _ _ _ _ _ _ _ _ _ _ _ _ _ _ _ (F0 _ _ _ (.int z :: _))) (show (0 : Int32) + 0 = 0 by decide) ?_
  refine xputi E hs hQ 58 (by decide) u3 rfl 3 (by decide) q165 rfl rfl (Nat.le_of_ble_eq_true rfl) dX10_tell_35 (fun H locs S4 e4 hQ => ?_)
  have u4 : S4 58 = .inr (10, [.int 0, .int 0, .int 0, .int 0, .ref (ad 59)]) := up_at e4 rfl
  refine lv_aload_n hx hb dX10_tell_38 rfl (lv_at hl 0 rfl) ?_
  refine xget E hQ 58 (by decide) u4 rfl 4 (by decide) q166 rfl dX10_tell_39 ?_
  refine lv_iconst (v := 1) hx hb dX10_tell_42 (by decide) ?_
  have c_5 : S4 59 = .inl (g.2 0, 36, .inl f59) := (up_ne e4 (by decide) (up_ne e3 (by decide) (up_ne e2 (by decide) (up_ne e1 (by decide) h59))))
  refine xcSv E hs hQ hml hl.1 (uFillI l g ad _ hD S4 59 (by decide) 36 (by decide) f59 1 c_5) mJ7_fill_53178 q596 rfl ⟨by decide, by decide⟩ ⟨by decide, by decide⟩ (Nat.le_of_ble_eq_true rfl) rfl dX10_tell_43 (fun S6 H locs hp6 hQ => ?_)
  have e6 := hp6
  have u6 : S6 59 = .inl (g.2 0, 36, .inl (fillF 1 36 f59)) := up_at e6 rfl
  refine lv_iconst (v := 0) hx hb dX10_tell_46 (by decide) ?_
  refine lv_istore (lv' := [(4, .int 0), (0, .ref (ad 58)), (1, .int 0), (2, .int 0), (3, .int 0)]) hx hb dX10_tell_47 hl (by decide) rfl (fun ls hl => ?_)
  refine lv_iload hx hb dX10_tell_49 (lv_at hl 0 rfl) ?_
  refine lv_aload_n hx hb dX10_tell_51 rfl (lv_at hl 1 rfl) ?_
  have c_7 : S6 58 = .inr (10, [.int 0, .int 0, .int 0, .int 0, .ref (ad 59)]) := (up_ne e6 (by decide) u4)
  refine xget E hQ 58 (by decide) c_7 rfl 0 (by decide) q155 rfl dX10_tell_52 ?_
  refine lv_icmp_ge (tgt := 79) hx hb dX10_tell_55 (by decide) (fun k_8 => ?_) (fun k_8 => absurd k_8 (by decide))
  refine lv_aload_n hx hb dX10_tell_79 rfl (lv_at hl 1 rfl) ?_
  refine xget E hQ 58 (by decide) c_7 rfl 0 (by decide) q155 rfl dX10_tell_80 ?_
  refine lv_aload_n hx hb dX10_tell_83 rfl (lv_at hl 1 rfl) ?_
  refine xget E hQ 58 (by decide) c_7 rfl 1 (by decide) q158 rfl dX10_tell_84 ?_
  refine lv_iadd hx hb dX10_tell_87 ?_
  refine sb_at (P := fun z => W _ _ _ _ _ _ _ _ _ _ _ _ _ _ _ (F0 _ _ _ (.int z :: _))) (show (0 : Int32) + 0 = 0 by decide) ?_
  refine lv_istore (lv' := [(4, .int 0), (0, .ref (ad 58)), (1, .int 0), (2, .int 0), (3, .int 0)]) hx hb dX10_tell_88 hl (by decide) rfl (fun ls hl => ?_)
  refine lv_iload hx hb dX10_tell_90 (lv_at hl 0 rfl) ?_
  refine lv_aload_n hx hb dX10_tell_92 rfl (lv_at hl 1 rfl) ?_
  refine xget E hQ 58 (by decide) c_7 rfl 3 (by decide) q165 rfl dX10_tell_93 ?_
  refine lv_aload_n hx hb dX10_tell_96 rfl (lv_at hl 1 rfl) ?_
  refine xget E hQ 58 (by decide) c_7 rfl 1 (by decide) q158 rfl dX10_tell_97 ?_
  refine lv_isub hx hb dX10_tell_100 ?_
  refine sb_at (P := fun z => W _ _ _ _ _ _ _ _ _ _ _ _ _ _ _ (F0 _ _ _ (.int z :: _))) (show (0 : Int32) - 0 = 0 by decide) ?_
  refine lv_icmp_ge (tgt := 125) hx hb dX10_tell_101 (by decide) (fun k_9 => ?_) (fun k_9 => absurd k_9 (by decide))
  exact xrv E hr hlk hQ (⟨fun j hj => (up_ne e6 (fun h => hj (by subst h; decide)) (up_ne e4 (fun h => hj (by subst h; decide)) (up_ne e3 (fun h => hj (by subst h; decide)) (up_ne e2 (fun h => hj (by subst h; decide)) (up_ne e1 (fun h => hj (by subst h; decide)) rfl))))), c_7, ⟨_, u6⟩⟩) dX10_tell_125
set_option maxHeartbeats 4000000 in
set_option maxRecDepth 100000 in
theorem cCopy_57_2 (l : Launch) (g : GG) (ad : Nat → Nat) (hD : Dj ad 122) (S : SS) (f59 : Nat → Int32) (f60 : Nat → Int32) (f61 : Nat → Int32) (f62 : Nat → Int32) (f63 : Nat → Int32) (f64 : Nat → Int32) (f70 : Nat → Int32) (f5 : Nat → Int32) (f6 : Nat → Int32) (f7 : Nat → Int32) (f8 : Nat → Int32) (f9 : Nat → Int32) (f15 : Nat → Int32) (f66 : Nat → Int32) (f67 : Nat → Int32) (f68 : Nat → Int32) (f69 : Nat → Int32) (f11 : Nat → Int32) (f12 : Nat → Int32) (f13 : Nat → Int32) (f14 : Nat → Int32) (f72 : Nat → Int32) (f73 : Nat → Int32) (f74 : Nat → Int32) (f17 : Nat → Int32) (f18 : Nat → Int32) (f19 : Nat → Int32) (h57 : S 57 = .inr (1, [.int 0, .int 0, .int 0, .ref (ad 58), .ref (ad 60), .ref (ad 61), .int 0, .int 0, .ref (ad 62), .ref (ad 63), .ref (ad 64), .ref (ad 65), .int 0, .ref (ad 70), .ref (ad 71)])) (h2 : S 2 = .inr (1, [.int 0, .int 0, .int 0, .ref (ad 3), .ref (ad 5), .ref (ad 6), .int 0, .int 0, .ref (ad 7), .ref (ad 8), .ref (ad 9), .ref (ad 10), .int 0, .ref (ad 15), .ref (ad 16)])) (h58 : S 58 = .inr (10, [.int 0, .int 0, .int 0, .int 0, .ref (ad 59)])) (h3 : S 3 = .inr (10, [.int 0, .int 0, .int 0, .int 0, .ref (ad 4)])) (h59 : S 59 = .inl (g.2 0, 36, .inl f59)) (h60 : S 60 = .inl (g.2 0, 12, .inl f60)) (h61 : S 61 = .inl (g.2 0, 12, .inl f61)) (h62 : S 62 = .inl (g.2 0, 8, .inl f62)) (h63 : S 63 = .inl (g.2 0, 8, .inl f63)) (h64 : S 64 = .inl (g.2 0, 8, .inl f64)) (h70 : S 70 = .inl (g.2 0, 3, .inl f70)) (h5 : S 5 = .inl (g.2 0, 12, .inl f5)) (h6 : S 6 = .inl (g.2 0, 12, .inl f6)) (h7 : S 7 = .inl (g.2 0, 8, .inl f7)) (h8 : S 8 = .inl (g.2 0, 8, .inl f8)) (h9 : S 9 = .inl (g.2 0, 8, .inl f9)) (h15 : S 15 = .inl (g.2 0, 3, .inl f15)) (h65 : S 65 = .inr (6, [.int 0, .ref (ad 66), .ref (ad 67), .ref (ad 68), .ref (ad 69)])) (h10 : S 10 = .inr (6, [.int 0, .ref (ad 11), .ref (ad 12), .ref (ad 13), .ref (ad 14)])) (h66 : S 66 = .inl (g.2 0, 6, .inl f66)) (h67 : S 67 = .inl (g.2 0, 6, .inl f67)) (h68 : S 68 = .inl (g.2 0, 6, .inl f68)) (h69 : S 69 = .inl (g.2 0, 6, .inl f69)) (h11 : S 11 = .inl (g.2 0, 6, .inl f11)) (h12 : S 12 = .inl (g.2 0, 6, .inl f12)) (h13 : S 13 = .inl (g.2 0, 6, .inl f13)) (h14 : S 14 = .inl (g.2 0, 6, .inl f14)) (h71 : S 71 = .inr (0, [.int 0, .ref (ad 72), .ref (ad 73), .ref (ad 74)])) (h16 : S 16 = .inr (0, [.int 0, .ref (ad 17), .ref (ad 18), .ref (ad 19)])) (h72 : S 72 = .inl (g.2 0, 40, .inl f72)) (h73 : S 73 = .inl (g.2 0, 40, .inl f73)) (h74 : S 74 = .inl (g.2 0, 40, .inl f74)) (h17 : S 17 = .inl (g.2 0, 40, .inl f17)) (h18 : S 18 = .inl (g.2 0, 40, .inl f18)) (h19 : S 19 = .inl (g.2 0, 40, .inl f19)) : Met l yX1_copyFrom (wG (.code yX1_copyFrom cX1_copyFrom 2 none)) (Rm 2) (XPre g ad 122 S [.ref (ad 57), .ref (ad 2)]) (va_Qv (fun S' => (∀ j, j ∉ ([57, 58, 59, 60, 61, 62, 63, 64, 65, 66, 67, 68, 69, 70, 71, 72, 73, 74] : List Nat) → S' j = S j) ∧ S' 57 = .inr (1, [.int 0, .int 0, .int 0, .ref (ad 58), .ref (ad 60), .ref (ad 61), .int 0, .int 0, .ref (ad 62), .ref (ad 63), .ref (ad 64), .ref (ad 65), .int 0, .ref (ad 70), .ref (ad 71)]) ∧ S' 58 = .inr (10, [.int 0, .int 0, .int 0, .int 0, .ref (ad 59)]) ∧ (∃ f : Nat → Int32, S' 59 = .inl (g.2 0, 36, .inl f)) ∧ (∃ f : Nat → Int32, S' 60 = .inl (g.2 0, 12, .inl f)) ∧ (∃ f : Nat → Int32, S' 61 = .inl (g.2 0, 12, .inl f)) ∧ (∃ f : Nat → Int32, S' 62 = .inl (g.2 0, 8, .inl f)) ∧ (∃ f : Nat → Int32, S' 63 = .inl (g.2 0, 8, .inl f)) ∧ (∃ f : Nat → Int32, S' 64 = .inl (g.2 0, 8, .inl f)) ∧ S' 65 = .inr (6, [.int 0, .ref (ad 66), .ref (ad 67), .ref (ad 68), .ref (ad 69)]) ∧ (∃ f : Nat → Int32, S' 66 = .inl (g.2 0, 6, .inl f)) ∧ (∃ f : Nat → Int32, S' 67 = .inl (g.2 0, 6, .inl f)) ∧ (∃ f : Nat → Int32, S' 68 = .inl (g.2 0, 6, .inl f)) ∧ (∃ f : Nat → Int32, S' 69 = .inl (g.2 0, 6, .inl f)) ∧ (∃ f : Nat → Int32, S' 70 = .inl (g.2 0, 3, .inl f)) ∧ S' 71 = .inr (0, [.int 0, .ref (ad 72), .ref (ad 73), .ref (ad 74)]) ∧ (∃ f : Nat → Int32, S' 72 = .inl (g.2 0, 40, .inl f)) ∧ (∃ f : Nat → Int32, S' 73 = .inl (g.2 0, 40, .inl f)) ∧ (∃ f : Nat → Int32, S' 74 = .inl (g.2 0, 40, .inl f))) (QB g ad 122) (FA ad 122)) 0 0 (FA ad 122) := by
  refine xmet cX1_copyFrom "EbbWreck$Coast" (by decide) rfl (Nat.le_of_ble_eq_true rfl) (fun p e s m below meth c E hr hlk hml hQ ls hl => ?_)
  have hx := E.1
  have hb := E.2.1
  have hs : Sp ad 122 (FA ad 122) := Sp.fa hD
  have hl : lv_has ls 2 [(0, .ref (ad 57)), (1, .ref (ad 2))] := hl
  refine lv_aload_n hx hb dX1_copyFrom_0 rfl (lv_at hl 0 rfl) ?_
  refine lv_aload_n hx hb dX1_copyFrom_1 rfl (lv_at hl 1 rfl) ?_
  refine xget E hQ 2 (by decide) h2 rfl 0 (by decide) q236 rfl dX1_copyFrom_2 ?_
  refine xputi E hs hQ 57 (by decide) h57 rfl 0 (by decide) q236 rfl rfl (Nat.le_of_ble_eq_true rfl) dX1_copyFrom_5 (fun H locs S1 e1 hQ => ?_)
  have u1 : S1 57 = .inr (1, [.int 0, .int 0, .int 0, .ref (ad 58), .ref (ad 60), .ref (ad 61), .int 0, .int 0, .ref (ad 62), .ref (ad 63), .ref (ad 64), .ref (ad 65), .int 0, .ref (ad 70), .ref (ad 71)]) := up_at e1 rfl
  refine lv_aload_n hx hb dX1_copyFrom_8 rfl (lv_at hl 0 rfl) ?_
  refine lv_aload_n hx hb dX1_copyFrom_9 rfl (lv_at hl 1 rfl) ?_
  have c_2 : S1 2 = .inr (1, [.int 0, .int 0, .int 0, .ref (ad 3), .ref (ad 5), .ref (ad 6), .int 0, .int 0, .ref (ad 7), .ref (ad 8), .ref (ad 9), .ref (ad 10), .int 0, .ref (ad 15), .ref (ad 16)]) := (up_ne e1 (by decide) h2)
  refine xget E hQ 2 (by decide) c_2 rfl 1 (by decide) q239 rfl dX1_copyFrom_10 ?_
  refine xputi E hs hQ 57 (by decide) u1 rfl 1 (by decide) q239 rfl rfl (Nat.le_of_ble_eq_true rfl) dX1_copyFrom_13 (fun H locs S3 e3 hQ => ?_)
  have u3 : S3 57 = .inr (1, [.int 0, .int 0, .int 0, .ref (ad 58), .ref (ad 60), .ref (ad 61), .int 0, .int 0, .ref (ad 62), .ref (ad 63), .ref (ad 64), .ref (ad 65), .int 0, .ref (ad 70), .ref (ad 71)]) := up_at e3 rfl
  refine lv_aload_n hx hb dX1_copyFrom_16 rfl (lv_at hl 0 rfl) ?_
  refine lv_aload_n hx hb dX1_copyFrom_17 rfl (lv_at hl 1 rfl) ?_
  have c_4 : S3 2 = .inr (1, [.int 0, .int 0, .int 0, .ref (ad 3), .ref (ad 5), .ref (ad 6), .int 0, .int 0, .ref (ad 7), .ref (ad 8), .ref (ad 9), .ref (ad 10), .int 0, .ref (ad 15), .ref (ad 16)]) := (up_ne e3 (by decide) c_2)
  refine xget E hQ 2 (by decide) c_4 rfl 2 (by decide) q247 rfl dX1_copyFrom_18 ?_
  refine xputi E hs hQ 57 (by decide) u3 rfl 2 (by decide) q247 rfl rfl (Nat.le_of_ble_eq_true rfl) dX1_copyFrom_21 (fun H locs S5 e5 hQ => ?_)
  have u5 : S5 57 = .inr (1, [.int 0, .int 0, .int 0, .ref (ad 58), .ref (ad 60), .ref (ad 61), .int 0, .int 0, .ref (ad 62), .ref (ad 63), .ref (ad 64), .ref (ad 65), .int 0, .ref (ad 70), .ref (ad 71)]) := up_at e5 rfl
  refine lv_aload_n hx hb dX1_copyFrom_24 rfl (lv_at hl 0 rfl) ?_
  refine xget E hQ 57 (by decide) u5 rfl 3 (by decide) q251 rfl dX1_copyFrom_25 ?_
  refine lv_aload_n hx hb dX1_copyFrom_28 rfl (lv_at hl 1 rfl) ?_
  have c_6 : S5 2 = .inr (1, [.int 0, .int 0, .int 0, .ref (ad 3), .ref (ad 5), .ref (ad 6), .int 0, .int 0, .ref (ad 7), .ref (ad 8), .ref (ad 9), .ref (ad 10), .int 0, .ref (ad 15), .ref (ad 16)]) := (up_ne e5 (by decide) c_4)
  refine xget E hQ 2 (by decide) c_6 rfl 3 (by decide) q251 rfl dX1_copyFrom_29 ?_
  have c_7 : S5 3 = .inr (10, [.int 0, .int 0, .int 0, .int 0, .ref (ad 4)]) := (up_ne e5 (by decide) (up_ne e3 (by decide) (up_ne e1 (by decide) h3)))
  refine xget E hQ 3 (by decide) c_7 rfl 0 (by decide) q156 rfl dX1_copyFrom_32 ?_
  refine lv_aload_n hx hb dX1_copyFrom_35 rfl (lv_at hl 1 rfl) ?_
  refine xget E hQ 2 (by decide) c_6 rfl 3 (by decide) q251 rfl dX1_copyFrom_36 ?_
  refine xget E hQ 3 (by decide) c_7 rfl 1 (by decide) q159 rfl dX1_copyFrom_39 ?_
  refine lv_aload_n hx hb dX1_copyFrom_42 rfl (lv_at hl 1 rfl) ?_
  refine xget E hQ 2 (by decide) c_6 rfl 3 (by decide) q251 rfl dX1_copyFrom_43 ?_
  refine xget E hQ 3 (by decide) c_7 rfl 2 (by decide) q162 rfl dX1_copyFrom_46 ?_
  have c_8 : S5 59 = .inl (g.2 0, 36, .inl f59) := (up_ne e5 (by decide) (up_ne e3 (by decide) (up_ne e1 (by decide) h59)))
  have c_9 : S5 58 = .inr (10, [.int 0, .int 0, .int 0, .int 0, .ref (ad 59)]) := (up_ne e5 (by decide) (up_ne e3 (by decide) (up_ne e1 (by decide) h58)))
  refine xcVv E hs hQ hml hl.1 58 (tell_58 l g ad hD S5 f59 c_9 c_8) mX10_tell q592 (by decide) c_9 rfl rfl ⟨by decide, by decide⟩ ⟨by decide, by decide⟩ (Nat.le_of_ble_eq_true rfl) rfl dX1_copyFrom_49 (fun S10 H locs hp10 hQ _ => ?_)
  obtain ⟨o10, v10_58, ⟨f10_59, v10_59⟩⟩ := hp10
  refine lv_aload_n hx hb dX1_copyFrom_52 rfl (lv_at hl 1 rfl) ?_
  have c_11 : S10 2 = .inr (1, [.int 0, .int 0, .int 0, .ref (ad 3), .ref (ad 5), .ref (ad 6), .int 0, .int 0, .ref (ad 7), .ref (ad 8), .ref (ad 9), .ref (ad 10), .int 0, .ref (ad 15), .ref (ad 16)]) := ((o10 2 (by decide)).trans c_6)
  refine xget E hQ 2 (by decide) c_11 rfl 4 (by decide) q257 rfl dX1_copyFrom_53 ?_
  refine lv_iconst (v := 0) hx hb dX1_copyFrom_56 (by decide) ?_
  refine lv_aload_n hx hb dX1_copyFrom_57 rfl (lv_at hl 0 rfl) ?_
  have c_12 : S10 57 = .inr (1, [.int 0, .int 0, .int 0, .ref (ad 58), .ref (ad 60), .ref (ad 61), .int 0, .int 0, .ref (ad 62), .ref (ad 63), .ref (ad 64), .ref (ad 65), .int 0, .ref (ad 70), .ref (ad 71)]) := ((o10 57 (by decide)).trans u5)
  refine xget E hQ 57 (by decide) c_12 rfl 4 (by decide) q257 rfl dX1_copyFrom_58 ?_
  refine lv_iconst (v := 0) hx hb dX1_copyFrom_61 (by decide) ?_
  refine lv_bipush (v := 12) hx hb dX1_copyFrom_62 (by decide) ?_
  have c_13 : S10 5 = .inl (g.2 0, 12, .inl f5) := ((o10 5 (by decide)).trans (up_ne e5 (by decide) (up_ne e3 (by decide) (up_ne e1 (by decide) h5))))
  have c_14 : S10 60 = .inl (g.2 0, 12, .inl f60) := ((o10 60 (by decide)).trans (up_ne e5 (by decide) (up_ne e3 (by decide) (up_ne e1 (by decide) h60))))
  refine xcopyi E hs hQ hml hl.1 5 (by decide) 60 (by decide) c_13 c_14 q749 (by decide) (by decide) (by decide) (Nat.le_of_ble_eq_true rfl) (Nat.le_of_ble_eq_true rfl) (Nat.le_of_ble_eq_true rfl) (Nat.le_of_ble_eq_true rfl) dX1_copyFrom_64 (fun H locs S15 e15 hQ => ?_)
  have u15 : S15 60 = .inl (g.2 0, 12, .inl (va_cpy f5 f60 (0 : Int32).toNatClampNeg (0 : Int32).toNatClampNeg (12 : Int32).toNatClampNeg)) := up_at e15 rfl
  refine lv_aload_n hx hb dX1_copyFrom_67 rfl (lv_at hl 1 rfl) ?_
  have c_16 : S15 2 = .inr (1, [.int 0, .int 0, .int 0, .ref (ad 3), .ref (ad 5), .ref (ad 6), .int 0, .int 0, .ref (ad 7), .ref (ad 8), .ref (ad 9), .ref (ad 10), .int 0, .ref (ad 15), .ref (ad 16)]) := (up_ne e15 (by decide) c_11)
  refine xget E hQ 2 (by decide) c_16 rfl 5 (by decide) q260 rfl dX1_copyFrom_68 ?_
  refine lv_iconst (v := 0) hx hb dX1_copyFrom_71 (by decide) ?_
  refine lv_aload_n hx hb dX1_copyFrom_72 rfl (lv_at hl 0 rfl) ?_
  have c_17 : S15 57 = .inr (1, [.int 0, .int 0, .int 0, .ref (ad 58), .ref (ad 60), .ref (ad 61), .int 0, .int 0, .ref (ad 62), .ref (ad 63), .ref (ad 64), .ref (ad 65), .int 0, .ref (ad 70), .ref (ad 71)]) := (up_ne e15 (by decide) c_12)
  refine xget E hQ 57 (by decide) c_17 rfl 5 (by decide) q260 rfl dX1_copyFrom_73 ?_
  refine lv_iconst (v := 0) hx hb dX1_copyFrom_76 (by decide) ?_
  refine lv_bipush (v := 12) hx hb dX1_copyFrom_77 (by decide) ?_
  have c_18 : S15 6 = .inl (g.2 0, 12, .inl f6) := (up_ne e15 (by decide) ((o10 6 (by decide)).trans (up_ne e5 (by decide) (up_ne e3 (by decide) (up_ne e1 (by decide) h6)))))
  have c_19 : S15 61 = .inl (g.2 0, 12, .inl f61) := (up_ne e15 (by decide) ((o10 61 (by decide)).trans (up_ne e5 (by decide) (up_ne e3 (by decide) (up_ne e1 (by decide) h61)))))
  refine xcopyi E hs hQ hml hl.1 6 (by decide) 61 (by decide) c_18 c_19 q749 (by decide) (by decide) (by decide) (Nat.le_of_ble_eq_true rfl) (Nat.le_of_ble_eq_true rfl) (Nat.le_of_ble_eq_true rfl) (Nat.le_of_ble_eq_true rfl) dX1_copyFrom_79 (fun H locs S20 e20 hQ => ?_)
  have u20 : S20 61 = .inl (g.2 0, 12, .inl (va_cpy f6 f61 (0 : Int32).toNatClampNeg (0 : Int32).toNatClampNeg (12 : Int32).toNatClampNeg)) := up_at e20 rfl
  refine lv_aload_n hx hb dX1_copyFrom_82 rfl (lv_at hl 0 rfl) ?_
  refine lv_aload_n hx hb dX1_copyFrom_83 rfl (lv_at hl 1 rfl) ?_
  have c_21 : S20 2 = .inr (1, [.int 0, .int 0, .int 0, .ref (ad 3), .ref (ad 5), .ref (ad 6), .int 0, .int 0, .ref (ad 7), .ref (ad 8), .ref (ad 9), .ref (ad 10), .int 0, .ref (ad 15), .ref (ad 16)]) := (up_ne e20 (by decide) c_16)
  refine xget E hQ 2 (by decide) c_21 rfl 6 (by decide) q263 rfl dX1_copyFrom_84 ?_
  have c_22 : S20 57 = .inr (1, [.int 0, .int 0, .int 0, .ref (ad 58), .ref (ad 60), .ref (ad 61), .int 0, .int 0, .ref (ad 62), .ref (ad 63), .ref (ad 64), .ref (ad 65), .int 0, .ref (ad 70), .ref (ad 71)]) := (up_ne e20 (by decide) c_17)
  refine xputi E hs hQ 57 (by decide) c_22 rfl 6 (by decide) q263 rfl rfl (Nat.le_of_ble_eq_true rfl) dX1_copyFrom_87 (fun H locs S23 e23 hQ => ?_)
  have u23 : S23 57 = .inr (1, [.int 0, .int 0, .int 0, .ref (ad 58), .ref (ad 60), .ref (ad 61), .int 0, .int 0, .ref (ad 62), .ref (ad 63), .ref (ad 64), .ref (ad 65), .int 0, .ref (ad 70), .ref (ad 71)]) := up_at e23 rfl
  refine lv_aload_n hx hb dX1_copyFrom_90 rfl (lv_at hl 0 rfl) ?_
  refine lv_aload_n hx hb dX1_copyFrom_91 rfl (lv_at hl 1 rfl) ?_
  have c_24 : S23 2 = .inr (1, [.int 0, .int 0, .int 0, .ref (ad 3), .ref (ad 5), .ref (ad 6), .int 0, .int 0, .ref (ad 7), .ref (ad 8), .ref (ad 9), .ref (ad 10), .int 0, .ref (ad 15), .ref (ad 16)]) := (up_ne e23 (by decide) c_21)
  refine xget E hQ 2 (by decide) c_24 rfl 7 (by decide) q270 rfl dX1_copyFrom_92 ?_
  refine xputi E hs hQ 57 (by decide) u23 rfl 7 (by decide) q270 rfl rfl (Nat.le_of_ble_eq_true rfl) dX1_copyFrom_95 (fun H locs S25 e25 hQ => ?_)
  have u25 : S25 57 = .inr (1, [.int 0, .int 0, .int 0, .ref (ad 58), .ref (ad 60), .ref (ad 61), .int 0, .int 0, .ref (ad 62), .ref (ad 63), .ref (ad 64), .ref (ad 65), .int 0, .ref (ad 70), .ref (ad 71)]) := up_at e25 rfl
  refine lv_aload_n hx hb dX1_copyFrom_98 rfl (lv_at hl 1 rfl) ?_
  have c_26 : S25 2 = .inr (1, [.int 0, .int 0, .int 0, .ref (ad 3), .ref (ad 5), .ref (ad 6), .int 0, .int 0, .ref (ad 7), .ref (ad 8), .ref (ad 9), .ref (ad 10), .int 0, .ref (ad 15), .ref (ad 16)]) := (up_ne e25 (by decide) c_24)
  refine xget E hQ 2 (by decide) c_26 rfl 8 (by decide) q274 rfl dX1_copyFrom_99 ?_
  refine lv_iconst (v := 0) hx hb dX1_copyFrom_102 (by decide) ?_
  refine lv_aload_n hx hb dX1_copyFrom_103 rfl (lv_at hl 0 rfl) ?_
  refine xget E hQ 57 (by decide) u25 rfl 8 (by decide) q274 rfl dX1_copyFrom_104 ?_
  refine lv_iconst (v := 0) hx hb dX1_copyFrom_107 (by decide) ?_
  refine lv_bipush (v := 8) hx hb dX1_copyFrom_108 (by decide) ?_
  have c_27 : S25 7 = .inl (g.2 0, 8, .inl f7) := (up_ne e25 (by decide) (up_ne e23 (by decide) (up_ne e20 (by decide) (up_ne e15 (by decide) ((o10 7 (by decide)).trans (up_ne e5 (by decide) (up_ne e3 (by decide) (up_ne e1 (by decide) h7))))))))
  have c_28 : S25 62 = .inl (g.2 0, 8, .inl f62) := (up_ne e25 (by decide) (up_ne e23 (by decide) (up_ne e20 (by decide) (up_ne e15 (by decide) ((o10 62 (by decide)).trans (up_ne e5 (by decide) (up_ne e3 (by decide) (up_ne e1 (by decide) h62))))))))
  refine xcopyi E hs hQ hml hl.1 7 (by decide) 62 (by decide) c_27 c_28 q749 (by decide) (by decide) (by decide) (Nat.le_of_ble_eq_true rfl) (Nat.le_of_ble_eq_true rfl) (Nat.le_of_ble_eq_true rfl) (Nat.le_of_ble_eq_true rfl) dX1_copyFrom_110 (fun H locs S29 e29 hQ => ?_)
  have u29 : S29 62 = .inl (g.2 0, 8, .inl (va_cpy f7 f62 (0 : Int32).toNatClampNeg (0 : Int32).toNatClampNeg (8 : Int32).toNatClampNeg)) := up_at e29 rfl
  refine lv_aload_n hx hb dX1_copyFrom_113 rfl (lv_at hl 1 rfl) ?_
  have c_30 : S29 2 = .inr (1, [.int 0, .int 0, .int 0, .ref (ad 3), .ref (ad 5), .ref (ad 6), .int 0, .int 0, .ref (ad 7), .ref (ad 8), .ref (ad 9), .ref (ad 10), .int 0, .ref (ad 15), .ref (ad 16)]) := (up_ne e29 (by decide) c_26)
  refine xget E hQ 2 (by decide) c_30 rfl 9 (by decide) q279 rfl dX1_copyFrom_114 ?_
  refine lv_iconst (v := 0) hx hb dX1_copyFrom_117 (by decide) ?_
  refine lv_aload_n hx hb dX1_copyFrom_118 rfl (lv_at hl 0 rfl) ?_
  have c_31 : S29 57 = .inr (1, [.int 0, .int 0, .int 0, .ref (ad 58), .ref (ad 60), .ref (ad 61), .int 0, .int 0, .ref (ad 62), .ref (ad 63), .ref (ad 64), .ref (ad 65), .int 0, .ref (ad 70), .ref (ad 71)]) := (up_ne e29 (by decide) u25)
  refine xget E hQ 57 (by decide) c_31 rfl 9 (by decide) q279 rfl dX1_copyFrom_119 ?_
  refine lv_iconst (v := 0) hx hb dX1_copyFrom_122 (by decide) ?_
  refine lv_bipush (v := 8) hx hb dX1_copyFrom_123 (by decide) ?_
  have c_32 : S29 8 = .inl (g.2 0, 8, .inl f8) := (up_ne e29 (by decide) (up_ne e25 (by decide) (up_ne e23 (by decide) (up_ne e20 (by decide) (up_ne e15 (by decide) ((o10 8 (by decide)).trans (up_ne e5 (by decide) (up_ne e3 (by decide) (up_ne e1 (by decide) h8)))))))))
  have c_33 : S29 63 = .inl (g.2 0, 8, .inl f63) := (up_ne e29 (by decide) (up_ne e25 (by decide) (up_ne e23 (by decide) (up_ne e20 (by decide) (up_ne e15 (by decide) ((o10 63 (by decide)).trans (up_ne e5 (by decide) (up_ne e3 (by decide) (up_ne e1 (by decide) h63)))))))))
  refine xcopyi E hs hQ hml hl.1 8 (by decide) 63 (by decide) c_32 c_33 q749 (by decide) (by decide) (by decide) (Nat.le_of_ble_eq_true rfl) (Nat.le_of_ble_eq_true rfl) (Nat.le_of_ble_eq_true rfl) (Nat.le_of_ble_eq_true rfl) dX1_copyFrom_125 (fun H locs S34 e34 hQ => ?_)
  have u34 : S34 63 = .inl (g.2 0, 8, .inl (va_cpy f8 f63 (0 : Int32).toNatClampNeg (0 : Int32).toNatClampNeg (8 : Int32).toNatClampNeg)) := up_at e34 rfl
  refine lv_aload_n hx hb dX1_copyFrom_128 rfl (lv_at hl 1 rfl) ?_
  have c_35 : S34 2 = .inr (1, [.int 0, .int 0, .int 0, .ref (ad 3), .ref (ad 5), .ref (ad 6), .int 0, .int 0, .ref (ad 7), .ref (ad 8), .ref (ad 9), .ref (ad 10), .int 0, .ref (ad 15), .ref (ad 16)]) := (up_ne e34 (by decide) c_30)
  refine xget E hQ 2 (by decide) c_35 rfl 10 (by decide) q284 rfl dX1_copyFrom_129 ?_
  refine lv_iconst (v := 0) hx hb dX1_copyFrom_132 (by decide) ?_
  refine lv_aload_n hx hb dX1_copyFrom_133 rfl (lv_at hl 0 rfl) ?_
  have c_36 : S34 57 = .inr (1, [.int 0, .int 0, .int 0, .ref (ad 58), .ref (ad 60), .ref (ad 61), .int 0, .int 0, .ref (ad 62), .ref (ad 63), .ref (ad 64), .ref (ad 65), .int 0, .ref (ad 70), .ref (ad 71)]) := (up_ne e34 (by decide) c_31)
  refine xget E hQ 57 (by decide) c_36 rfl 10 (by decide) q284 rfl dX1_copyFrom_134 ?_
  refine lv_iconst (v := 0) hx hb dX1_copyFrom_137 (by decide) ?_
  refine lv_bipush (v := 8) hx hb dX1_copyFrom_138 (by decide) ?_
  have c_37 : S34 9 = .inl (g.2 0, 8, .inl f9) := (up_ne e34 (by decide) (up_ne e29 (by decide) (up_ne e25 (by decide) (up_ne e23 (by decide) (up_ne e20 (by decide) (up_ne e15 (by decide) ((o10 9 (by decide)).trans (up_ne e5 (by decide) (up_ne e3 (by decide) (up_ne e1 (by decide) h9))))))))))
  have c_38 : S34 64 = .inl (g.2 0, 8, .inl f64) := (up_ne e34 (by decide) (up_ne e29 (by decide) (up_ne e25 (by decide) (up_ne e23 (by decide) (up_ne e20 (by decide) (up_ne e15 (by decide) ((o10 64 (by decide)).trans (up_ne e5 (by decide) (up_ne e3 (by decide) (up_ne e1 (by decide) h64))))))))))
  refine xcopyi E hs hQ hml hl.1 9 (by decide) 64 (by decide) c_37 c_38 q749 (by decide) (by decide) (by decide) (Nat.le_of_ble_eq_true rfl) (Nat.le_of_ble_eq_true rfl) (Nat.le_of_ble_eq_true rfl) (Nat.le_of_ble_eq_true rfl) dX1_copyFrom_140 (fun H locs S39 e39 hQ => ?_)
  have u39 : S39 64 = .inl (g.2 0, 8, .inl (va_cpy f9 f64 (0 : Int32).toNatClampNeg (0 : Int32).toNatClampNeg (8 : Int32).toNatClampNeg)) := up_at e39 rfl
  refine lv_aload_n hx hb dX1_copyFrom_143 rfl (lv_at hl 0 rfl) ?_
  have c_40 : S39 57 = .inr (1, [.int 0, .int 0, .int 0, .ref (ad 58), .ref (ad 60), .ref (ad 61), .int 0, .int 0, .ref (ad 62), .ref (ad 63), .ref (ad 64), .ref (ad 65), .int 0, .ref (ad 70), .ref (ad 71)]) := (up_ne e39 (by decide) c_36)
  refine xget E hQ 57 (by decide) c_40 rfl 11 (by decide) q289 rfl dX1_copyFrom_144 ?_
  refine lv_aload_n hx hb dX1_copyFrom_147 rfl (lv_at hl 1 rfl) ?_
  have c_41 : S39 2 = .inr (1, [.int 0, .int 0, .int 0, .ref (ad 3), .ref (ad 5), .ref (ad 6), .int 0, .int 0, .ref (ad 7), .ref (ad 8), .ref (ad 9), .ref (ad 10), .int 0, .ref (ad 15), .ref (ad 16)]) := (up_ne e39 (by decide) c_35)
  refine xget E hQ 2 (by decide) c_41 rfl 11 (by decide) q289 rfl dX1_copyFrom_148 ?_
  have c_42 : S39 66 = .inl (g.2 0, 6, .inl f66) := (up_ne e39 (by decide) (up_ne e34 (by decide) (up_ne e29 (by decide) (up_ne e25 (by decide) (up_ne e23 (by decide) (up_ne e20 (by decide) (up_ne e15 (by decide) ((o10 66 (by decide)).trans (up_ne e5 (by decide) (up_ne e3 (by decide) (up_ne e1 (by decide) h66)))))))))))
  have c_43 : S39 67 = .inl (g.2 0, 6, .inl f67) := (up_ne e39 (by decide) (up_ne e34 (by decide) (up_ne e29 (by decide) (up_ne e25 (by decide) (up_ne e23 (by decide) (up_ne e20 (by decide) (up_ne e15 (by decide) ((o10 67 (by decide)).trans (up_ne e5 (by decide) (up_ne e3 (by decide) (up_ne e1 (by decide) h67)))))))))))
  have c_44 : S39 68 = .inl (g.2 0, 6, .inl f68) := (up_ne e39 (by decide) (up_ne e34 (by decide) (up_ne e29 (by decide) (up_ne e25 (by decide) (up_ne e23 (by decide) (up_ne e20 (by decide) (up_ne e15 (by decide) ((o10 68 (by decide)).trans (up_ne e5 (by decide) (up_ne e3 (by decide) (up_ne e1 (by decide) h68)))))))))))
  have c_45 : S39 69 = .inl (g.2 0, 6, .inl f69) := (up_ne e39 (by decide) (up_ne e34 (by decide) (up_ne e29 (by decide) (up_ne e25 (by decide) (up_ne e23 (by decide) (up_ne e20 (by decide) (up_ne e15 (by decide) ((o10 69 (by decide)).trans (up_ne e5 (by decide) (up_ne e3 (by decide) (up_ne e1 (by decide) h69)))))))))))
  have c_46 : S39 11 = .inl (g.2 0, 6, .inl f11) := (up_ne e39 (by decide) (up_ne e34 (by decide) (up_ne e29 (by decide) (up_ne e25 (by decide) (up_ne e23 (by decide) (up_ne e20 (by decide) (up_ne e15 (by decide) ((o10 11 (by decide)).trans (up_ne e5 (by decide) (up_ne e3 (by decide) (up_ne e1 (by decide) h11)))))))))))
  have c_47 : S39 12 = .inl (g.2 0, 6, .inl f12) := (up_ne e39 (by decide) (up_ne e34 (by decide) (up_ne e29 (by decide) (up_ne e25 (by decide) (up_ne e23 (by decide) (up_ne e20 (by decide) (up_ne e15 (by decide) ((o10 12 (by decide)).trans (up_ne e5 (by decide) (up_ne e3 (by decide) (up_ne e1 (by decide) h12)))))))))))
  have c_48 : S39 13 = .inl (g.2 0, 6, .inl f13) := (up_ne e39 (by decide) (up_ne e34 (by decide) (up_ne e29 (by decide) (up_ne e25 (by decide) (up_ne e23 (by decide) (up_ne e20 (by decide) (up_ne e15 (by decide) ((o10 13 (by decide)).trans (up_ne e5 (by decide) (up_ne e3 (by decide) (up_ne e1 (by decide) h13)))))))))))
  have c_49 : S39 14 = .inl (g.2 0, 6, .inl f14) := (up_ne e39 (by decide) (up_ne e34 (by decide) (up_ne e29 (by decide) (up_ne e25 (by decide) (up_ne e23 (by decide) (up_ne e20 (by decide) (up_ne e15 (by decide) ((o10 14 (by decide)).trans (up_ne e5 (by decide) (up_ne e3 (by decide) (up_ne e1 (by decide) h14)))))))))))
  have c_50 : S39 65 = .inr (6, [.int 0, .ref (ad 66), .ref (ad 67), .ref (ad 68), .ref (ad 69)]) := (up_ne e39 (by decide) (up_ne e34 (by decide) (up_ne e29 (by decide) (up_ne e25 (by decide) (up_ne e23 (by decide) (up_ne e20 (by decide) (up_ne e15 (by decide) ((o10 65 (by decide)).trans (up_ne e5 (by decide) (up_ne e3 (by decide) (up_ne e1 (by decide) h65)))))))))))
  have c_51 : S39 10 = .inr (6, [.int 0, .ref (ad 11), .ref (ad 12), .ref (ad 13), .ref (ad 14)]) := (up_ne e39 (by decide) (up_ne e34 (by decide) (up_ne e29 (by decide) (up_ne e25 (by decide) (up_ne e23 (by decide) (up_ne e20 (by decide) (up_ne e15 (by decide) ((o10 10 (by decide)).trans (up_ne e5 (by decide) (up_ne e3 (by decide) (up_ne e1 (by decide) h10)))))))))))
  refine xcVv E hs hQ hml hl.1 65 (rbCopy_57_2 l g ad hD S39 f66 f67 f68 f69 f11 f12 f13 f14 c_50 c_51 c_42 c_43 c_44 c_45 c_46 c_47 c_48 c_49) mX6_copyFrom q752 (by decide) c_50 rfl rfl ⟨by decide, by decide⟩ ⟨by decide, by decide⟩ (Nat.le_of_ble_eq_true rfl) rfl dX1_copyFrom_151 (fun S52 H locs hp52 hQ _ => ?_)
  obtain ⟨o52, v52_65, ⟨f52_66, v52_66⟩, ⟨f52_67, v52_67⟩, ⟨f52_68, v52_68⟩, ⟨f52_69, v52_69⟩⟩ := hp52
  refine lv_aload_n hx hb dX1_copyFrom_154 rfl (lv_at hl 0 rfl) ?_
  refine lv_aload_n hx hb dX1_copyFrom_155 rfl (lv_at hl 1 rfl) ?_
  have c_53 : S52 2 = .inr (1, [.int 0, .int 0, .int 0, .ref (ad 3), .ref (ad 5), .ref (ad 6), .int 0, .int 0, .ref (ad 7), .ref (ad 8), .ref (ad 9), .ref (ad 10), .int 0, .ref (ad 15), .ref (ad 16)]) := ((o52 2 (by decide)).trans c_41)
  refine xget E hQ 2 (by decide) c_53 rfl 12 (by decide) q293 rfl dX1_copyFrom_156 ?_
  have c_54 : S52 57 = .inr (1, [.int 0, .int 0, .int 0, .ref (ad 58), .ref (ad 60), .ref (ad 61), .int 0, .int 0, .ref (ad 62), .ref (ad 63), .ref (ad 64), .ref (ad 65), .int 0, .ref (ad 70), .ref (ad 71)]) := ((o52 57 (by decide)).trans c_40)
  refine xputi E hs hQ 57 (by decide) c_54 rfl 12 (by decide) q293 rfl rfl (Nat.le_of_ble_eq_true rfl) dX1_copyFrom_159 (fun H locs S55 e55 hQ => ?_)
  have u55 : S55 57 = .inr (1, [.int 0, .int 0, .int 0, .ref (ad 58), .ref (ad 60), .ref (ad 61), .int 0, .int 0, .ref (ad 62), .ref (ad 63), .ref (ad 64), .ref (ad 65), .int 0, .ref (ad 70), .ref (ad 71)]) := up_at e55 rfl
  refine lv_aload_n hx hb dX1_copyFrom_162 rfl (lv_at hl 1 rfl) ?_
  have c_56 : S55 2 = .inr (1, [.int 0, .int 0, .int 0, .ref (ad 3), .ref (ad 5), .ref (ad 6), .int 0, .int 0, .ref (ad 7), .ref (ad 8), .ref (ad 9), .ref (ad 10), .int 0, .ref (ad 15), .ref (ad 16)]) := (up_ne e55 (by decide) c_53)
  refine xget E hQ 2 (by decide) c_56 rfl 13 (by decide) q297 rfl dX1_copyFrom_163 ?_
  refine lv_iconst (v := 0) hx hb dX1_copyFrom_166 (by decide) ?_
  refine lv_aload_n hx hb dX1_copyFrom_167 rfl (lv_at hl 0 rfl) ?_
  refine xget E hQ 57 (by decide) u55 rfl 13 (by decide) q297 rfl dX1_copyFrom_168 ?_
  refine lv_iconst (v := 0) hx hb dX1_copyFrom_171 (by decide) ?_
  refine lv_iconst (v := 3) hx hb dX1_copyFrom_172 (by decide) ?_
  have c_57 : S55 15 = .inl (g.2 0, 3, .inl f15) := (up_ne e55 (by decide) ((o52 15 (by decide)).trans (up_ne e39 (by decide) (up_ne e34 (by decide) (up_ne e29 (by decide) (up_ne e25 (by decide) (up_ne e23 (by decide) (up_ne e20 (by decide) (up_ne e15 (by decide) ((o10 15 (by decide)).trans (up_ne e5 (by decide) (up_ne e3 (by decide) (up_ne e1 (by decide) h15)))))))))))))
  have c_58 : S55 70 = .inl (g.2 0, 3, .inl f70) := (up_ne e55 (by decide) ((o52 70 (by decide)).trans (up_ne e39 (by decide) (up_ne e34 (by decide) (up_ne e29 (by decide) (up_ne e25 (by decide) (up_ne e23 (by decide) (up_ne e20 (by decide) (up_ne e15 (by decide) ((o10 70 (by decide)).trans (up_ne e5 (by decide) (up_ne e3 (by decide) (up_ne e1 (by decide) h70)))))))))))))
  refine xcopyi E hs hQ hml hl.1 15 (by decide) 70 (by decide) c_57 c_58 q749 (by decide) (by decide) (by decide) (Nat.le_of_ble_eq_true rfl) (Nat.le_of_ble_eq_true rfl) (Nat.le_of_ble_eq_true rfl) (Nat.le_of_ble_eq_true rfl) dX1_copyFrom_173 (fun H locs S59 e59 hQ => ?_)
  have u59 : S59 70 = .inl (g.2 0, 3, .inl (va_cpy f15 f70 (0 : Int32).toNatClampNeg (0 : Int32).toNatClampNeg (3 : Int32).toNatClampNeg)) := up_at e59 rfl
  refine lv_aload_n hx hb dX1_copyFrom_176 rfl (lv_at hl 0 rfl) ?_
  have c_60 : S59 57 = .inr (1, [.int 0, .int 0, .int 0, .ref (ad 58), .ref (ad 60), .ref (ad 61), .int 0, .int 0, .ref (ad 62), .ref (ad 63), .ref (ad 64), .ref (ad 65), .int 0, .ref (ad 70), .ref (ad 71)]) := (up_ne e59 (by decide) u55)
  refine xget E hQ 57 (by decide) c_60 rfl 14 (by decide) q301 rfl dX1_copyFrom_177 ?_
  refine lv_aload_n hx hb dX1_copyFrom_180 rfl (lv_at hl 1 rfl) ?_
  have c_61 : S59 2 = .inr (1, [.int 0, .int 0, .int 0, .ref (ad 3), .ref (ad 5), .ref (ad 6), .int 0, .int 0, .ref (ad 7), .ref (ad 8), .ref (ad 9), .ref (ad 10), .int 0, .ref (ad 15), .ref (ad 16)]) := (up_ne e59 (by decide) c_56)
  refine xget E hQ 2 (by decide) c_61 rfl 14 (by decide) q301 rfl dX1_copyFrom_181 ?_
  have c_62 : S59 72 = .inl (g.2 0, 40, .inl f72) := (up_ne e59 (by decide) (up_ne e55 (by decide) ((o52 72 (by decide)).trans (up_ne e39 (by decide) (up_ne e34 (by decide) (up_ne e29 (by decide) (up_ne e25 (by decide) (up_ne e23 (by decide) (up_ne e20 (by decide) (up_ne e15 (by decide) ((o10 72 (by decide)).trans (up_ne e5 (by decide) (up_ne e3 (by decide) (up_ne e1 (by decide) h72))))))))))))))
  have c_63 : S59 73 = .inl (g.2 0, 40, .inl f73) := (up_ne e59 (by decide) (up_ne e55 (by decide) ((o52 73 (by decide)).trans (up_ne e39 (by decide) (up_ne e34 (by decide) (up_ne e29 (by decide) (up_ne e25 (by decide) (up_ne e23 (by decide) (up_ne e20 (by decide) (up_ne e15 (by decide) ((o10 73 (by decide)).trans (up_ne e5 (by decide) (up_ne e3 (by decide) (up_ne e1 (by decide) h73))))))))))))))
  have c_64 : S59 74 = .inl (g.2 0, 40, .inl f74) := (up_ne e59 (by decide) (up_ne e55 (by decide) ((o52 74 (by decide)).trans (up_ne e39 (by decide) (up_ne e34 (by decide) (up_ne e29 (by decide) (up_ne e25 (by decide) (up_ne e23 (by decide) (up_ne e20 (by decide) (up_ne e15 (by decide) ((o10 74 (by decide)).trans (up_ne e5 (by decide) (up_ne e3 (by decide) (up_ne e1 (by decide) h74))))))))))))))
  have c_65 : S59 17 = .inl (g.2 0, 40, .inl f17) := (up_ne e59 (by decide) (up_ne e55 (by decide) ((o52 17 (by decide)).trans (up_ne e39 (by decide) (up_ne e34 (by decide) (up_ne e29 (by decide) (up_ne e25 (by decide) (up_ne e23 (by decide) (up_ne e20 (by decide) (up_ne e15 (by decide) ((o10 17 (by decide)).trans (up_ne e5 (by decide) (up_ne e3 (by decide) (up_ne e1 (by decide) h17))))))))))))))
  have c_66 : S59 18 = .inl (g.2 0, 40, .inl f18) := (up_ne e59 (by decide) (up_ne e55 (by decide) ((o52 18 (by decide)).trans (up_ne e39 (by decide) (up_ne e34 (by decide) (up_ne e29 (by decide) (up_ne e25 (by decide) (up_ne e23 (by decide) (up_ne e20 (by decide) (up_ne e15 (by decide) ((o10 18 (by decide)).trans (up_ne e5 (by decide) (up_ne e3 (by decide) (up_ne e1 (by decide) h18))))))))))))))
  have c_67 : S59 19 = .inl (g.2 0, 40, .inl f19) := (up_ne e59 (by decide) (up_ne e55 (by decide) ((o52 19 (by decide)).trans (up_ne e39 (by decide) (up_ne e34 (by decide) (up_ne e29 (by decide) (up_ne e25 (by decide) (up_ne e23 (by decide) (up_ne e20 (by decide) (up_ne e15 (by decide) ((o10 19 (by decide)).trans (up_ne e5 (by decide) (up_ne e3 (by decide) (up_ne e1 (by decide) h19))))))))))))))
  have c_68 : S59 71 = .inr (0, [.int 0, .ref (ad 72), .ref (ad 73), .ref (ad 74)]) := (up_ne e59 (by decide) (up_ne e55 (by decide) ((o52 71 (by decide)).trans (up_ne e39 (by decide) (up_ne e34 (by decide) (up_ne e29 (by decide) (up_ne e25 (by decide) (up_ne e23 (by decide) (up_ne e20 (by decide) (up_ne e15 (by decide) ((o10 71 (by decide)).trans (up_ne e5 (by decide) (up_ne e3 (by decide) (up_ne e1 (by decide) h71))))))))))))))
  have c_69 : S59 16 = .inr (0, [.int 0, .ref (ad 17), .ref (ad 18), .ref (ad 19)]) := (up_ne e59 (by decide) (up_ne e55 (by decide) ((o52 16 (by decide)).trans (up_ne e39 (by decide) (up_ne e34 (by decide) (up_ne e29 (by decide) (up_ne e25 (by decide) (up_ne e23 (by decide) (up_ne e20 (by decide) (up_ne e15 (by decide) ((o10 16 (by decide)).trans (up_ne e5 (by decide) (up_ne e3 (by decide) (up_ne e1 (by decide) h16))))))))))))))
  refine xcVv E hs hQ hml hl.1 71 (acCopy_57_2 l g ad hD S59 f72 f73 f74 f17 f18 f19 c_68 c_69 c_62 c_63 c_64 c_65 c_66 c_67) mX0_copyFrom q757 (by decide) c_68 rfl rfl ⟨by decide, by decide⟩ ⟨by decide, by decide⟩ (Nat.le_of_ble_eq_true rfl) rfl dX1_copyFrom_184 (fun S70 H locs hp70 hQ _ => ?_)
  obtain ⟨o70, v70_71, ⟨f70_72, v70_72⟩, ⟨f70_73, v70_73⟩, ⟨f70_74, v70_74⟩⟩ := hp70
  have c_71 : S70 57 = .inr (1, [.int 0, .int 0, .int 0, .ref (ad 58), .ref (ad 60), .ref (ad 61), .int 0, .int 0, .ref (ad 62), .ref (ad 63), .ref (ad 64), .ref (ad 65), .int 0, .ref (ad 70), .ref (ad 71)]) := ((o70 57 (by decide)).trans c_60)
  have c_72 : S70 58 = .inr (10, [.int 0, .int 0, .int 0, .int 0, .ref (ad 59)]) := ((o70 58 (by decide)).trans (up_ne e59 (by decide) (up_ne e55 (by decide) ((o52 58 (by decide)).trans (up_ne e39 (by decide) (up_ne e34 (by decide) (up_ne e29 (by decide) (up_ne e25 (by decide) (up_ne e23 (by decide) (up_ne e20 (by decide) (up_ne e15 (by decide) v10_58)))))))))))
  have c_73 : S70 59 = .inl (g.2 0, 36, .inl f10_59) := ((o70 59 (by decide)).trans (up_ne e59 (by decide) (up_ne e55 (by decide) ((o52 59 (by decide)).trans (up_ne e39 (by decide) (up_ne e34 (by decide) (up_ne e29 (by decide) (up_ne e25 (by decide) (up_ne e23 (by decide) (up_ne e20 (by decide) (up_ne e15 (by decide) v10_59)))))))))))
  have c_74 : S70 60 = .inl (g.2 0, 12, .inl (va_cpy f5 f60 (0 : Int32).toNatClampNeg (0 : Int32).toNatClampNeg (12 : Int32).toNatClampNeg)) := ((o70 60 (by decide)).trans (up_ne e59 (by decide) (up_ne e55 (by decide) ((o52 60 (by decide)).trans (up_ne e39 (by decide) (up_ne e34 (by decide) (up_ne e29 (by decide) (up_ne e25 (by decide) (up_ne e23 (by decide) (up_ne e20 (by decide) u15))))))))))
  have c_75 : S70 61 = .inl (g.2 0, 12, .inl (va_cpy f6 f61 (0 : Int32).toNatClampNeg (0 : Int32).toNatClampNeg (12 : Int32).toNatClampNeg)) := ((o70 61 (by decide)).trans (up_ne e59 (by decide) (up_ne e55 (by decide) ((o52 61 (by decide)).trans (up_ne e39 (by decide) (up_ne e34 (by decide) (up_ne e29 (by decide) (up_ne e25 (by decide) (up_ne e23 (by decide) u20)))))))))
  have c_76 : S70 62 = .inl (g.2 0, 8, .inl (va_cpy f7 f62 (0 : Int32).toNatClampNeg (0 : Int32).toNatClampNeg (8 : Int32).toNatClampNeg)) := ((o70 62 (by decide)).trans (up_ne e59 (by decide) (up_ne e55 (by decide) ((o52 62 (by decide)).trans (up_ne e39 (by decide) (up_ne e34 (by decide) u29))))))
  have c_77 : S70 63 = .inl (g.2 0, 8, .inl (va_cpy f8 f63 (0 : Int32).toNatClampNeg (0 : Int32).toNatClampNeg (8 : Int32).toNatClampNeg)) := ((o70 63 (by decide)).trans (up_ne e59 (by decide) (up_ne e55 (by decide) ((o52 63 (by decide)).trans (up_ne e39 (by decide) u34)))))
  have c_78 : S70 64 = .inl (g.2 0, 8, .inl (va_cpy f9 f64 (0 : Int32).toNatClampNeg (0 : Int32).toNatClampNeg (8 : Int32).toNatClampNeg)) := ((o70 64 (by decide)).trans (up_ne e59 (by decide) (up_ne e55 (by decide) ((o52 64 (by decide)).trans u39))))
  have c_79 : S70 65 = .inr (6, [.int 0, .ref (ad 66), .ref (ad 67), .ref (ad 68), .ref (ad 69)]) := ((o70 65 (by decide)).trans (up_ne e59 (by decide) (up_ne e55 (by decide) v52_65)))
  have c_80 : S70 66 = .inl (g.2 0, 6, .inl f52_66) := ((o70 66 (by decide)).trans (up_ne e59 (by decide) (up_ne e55 (by decide) v52_66)))
  have c_81 : S70 67 = .inl (g.2 0, 6, .inl f52_67) := ((o70 67 (by decide)).trans (up_ne e59 (by decide) (up_ne e55 (by decide) v52_67)))
  have c_82 : S70 68 = .inl (g.2 0, 6, .inl f52_68) := ((o70 68 (by decide)).trans (up_ne e59 (by decide) (up_ne e55 (by decide) v52_68)))
  have c_83 : S70 69 = .inl (g.2 0, 6, .inl f52_69) := ((o70 69 (by decide)).trans (up_ne e59 (by decide) (up_ne e55 (by decide) v52_69)))
  have c_84 : S70 70 = .inl (g.2 0, 3, .inl (va_cpy f15 f70 (0 : Int32).toNatClampNeg (0 : Int32).toNatClampNeg (3 : Int32).toNatClampNeg)) := ((o70 70 (by decide)).trans u59)
  exact xrv E hr hlk hQ (⟨fun j hj => ((o70 j (fun h => hj ((by decide : ∀ x ∈ ([71, 72, 73, 74] : List Nat), x ∈ ([57, 58, 59, 60, 61, 62, 63, 64, 65, 66, 67, 68, 69, 70, 71, 72, 73, 74] : List Nat)) j h))).trans (up_ne e59 (fun h => hj (by subst h; decide)) (up_ne e55 (fun h => hj (by subst h; decide)) ((o52 j (fun h => hj ((by decide : ∀ x ∈ ([65, 66, 67, 68, 69] : List Nat), x ∈ ([57, 58, 59, 60, 61, 62, 63, 64, 65, 66, 67, 68, 69, 70, 71, 72, 73, 74] : List Nat)) j h))).trans (up_ne e39 (fun h => hj (by subst h; decide)) (up_ne e34 (fun h => hj (by subst h; decide)) (up_ne e29 (fun h => hj (by subst h; decide)) (up_ne e25 (fun h => hj (by subst h; decide)) (up_ne e23 (fun h => hj (by subst h; decide)) (up_ne e20 (fun h => hj (by subst h; decide)) (up_ne e15 (fun h => hj (by subst h; decide)) ((o10 j (fun h => hj ((by decide : ∀ x ∈ ([58, 59] : List Nat), x ∈ ([57, 58, 59, 60, 61, 62, 63, 64, 65, 66, 67, 68, 69, 70, 71, 72, 73, 74] : List Nat)) j h))).trans (up_ne e5 (fun h => hj (by subst h; decide)) (up_ne e3 (fun h => hj (by subst h; decide)) (up_ne e1 (fun h => hj (by subst h; decide)) rfl))))))))))))))), c_71, c_72, ⟨_, c_73⟩, ⟨_, c_74⟩, ⟨_, c_75⟩, ⟨_, c_76⟩, ⟨_, c_77⟩, ⟨_, c_78⟩, c_79, ⟨_, c_80⟩, ⟨_, c_81⟩, ⟨_, c_82⟩, ⟨_, c_83⟩, ⟨_, c_84⟩, v70_71, ⟨_, v70_72⟩, ⟨_, v70_73⟩, ⟨_, v70_74⟩⟩) dX1_copyFrom_187
set_option maxHeartbeats 4000000 in
set_option maxRecDepth 100000 in
theorem rbCopy_75_2 (l : Launch) (g : GG) (ad : Nat → Nat) (hD : Dj ad 122) (S : SS) (f84 : Nat → Int32) (f85 : Nat → Int32) (f86 : Nat → Int32) (f87 : Nat → Int32) (f11 : Nat → Int32) (f12 : Nat → Int32) (f13 : Nat → Int32) (f14 : Nat → Int32) (h83 : S 83 = .inr (6, [.int 0, .ref (ad 84), .ref (ad 85), .ref (ad 86), .ref (ad 87)])) (h10 : S 10 = .inr (6, [.int 0, .ref (ad 11), .ref (ad 12), .ref (ad 13), .ref (ad 14)])) (h84 : S 84 = .inl (g.2 0, 6, .inl f84)) (h85 : S 85 = .inl (g.2 0, 6, .inl f85)) (h86 : S 86 = .inl (g.2 0, 6, .inl f86)) (h87 : S 87 = .inl (g.2 0, 6, .inl f87)) (h11 : S 11 = .inl (g.2 0, 6, .inl f11)) (h12 : S 12 = .inl (g.2 0, 6, .inl f12)) (h13 : S 13 = .inl (g.2 0, 6, .inl f13)) (h14 : S 14 = .inl (g.2 0, 6, .inl f14)) : Met l yX6_copyFrom (wG (.code yX6_copyFrom cX6_copyFrom 2 none)) (Rm 1) (XPre g ad 122 S [.ref (ad 83), .ref (ad 10)]) (va_Qv (fun S' => (∀ j, j ∉ ([83, 84, 85, 86, 87] : List Nat) → S' j = S j) ∧ S' 83 = .inr (6, [.int 0, .ref (ad 84), .ref (ad 85), .ref (ad 86), .ref (ad 87)]) ∧ (∃ f : Nat → Int32, S' 84 = .inl (g.2 0, 6, .inl f)) ∧ (∃ f : Nat → Int32, S' 85 = .inl (g.2 0, 6, .inl f)) ∧ (∃ f : Nat → Int32, S' 86 = .inl (g.2 0, 6, .inl f)) ∧ (∃ f : Nat → Int32, S' 87 = .inl (g.2 0, 6, .inl f))) (QB g ad 122) (FA ad 122)) 0 0 (FA ad 122) := by
  refine xmet cX6_copyFrom "EbbWreck$RuleBook" (by decide) rfl (Nat.le_of_ble_eq_true rfl) (fun p e s m below meth c E hr hlk hml hQ ls hl => ?_)
  have hx := E.1
  have hb := E.2.1
  have hs : Sp ad 122 (FA ad 122) := Sp.fa hD
  have hl : lv_has ls 2 [(0, .ref (ad 83)), (1, .ref (ad 10))] := hl
  refine lv_aload_n hx hb dX6_copyFrom_0 rfl (lv_at hl 0 rfl) ?_
  refine lv_aload_n hx hb dX6_copyFrom_1 rfl (lv_at hl 1 rfl) ?_
  refine xget E hQ 10 (by decide) h10 rfl 0 (by decide) q186 rfl dX6_copyFrom_2 ?_
  refine xputi E hs hQ 83 (by decide) h83 rfl 0 (by decide) q186 rfl rfl (Nat.le_of_ble_eq_true rfl) dX6_copyFrom_5 (fun H locs S1 e1 hQ => ?_)
  have u1 : S1 83 = .inr (6, [.int 0, .ref (ad 84), .ref (ad 85), .ref (ad 86), .ref (ad 87)]) := up_at e1 rfl
  refine lv_aload_n hx hb dX6_copyFrom_8 rfl (lv_at hl 1 rfl) ?_
  have c_2 : S1 10 = .inr (6, [.int 0, .ref (ad 11), .ref (ad 12), .ref (ad 13), .ref (ad 14)]) := (up_ne e1 (by decide) h10)
  refine xget E hQ 10 (by decide) c_2 rfl 1 (by decide) q189 rfl dX6_copyFrom_9 ?_
  refine lv_iconst (v := 0) hx hb dX6_copyFrom_12 (by decide) ?_
  refine lv_aload_n hx hb dX6_copyFrom_13 rfl (lv_at hl 0 rfl) ?_
  refine xget E hQ 83 (by decide) u1 rfl 1 (by decide) q189 rfl dX6_copyFrom_14 ?_
  refine lv_iconst (v := 0) hx hb dX6_copyFrom_17 (by decide) ?_
  refine lv_bipush (v := 6) hx hb dX6_copyFrom_18 (by decide) ?_
  have c_3 : S1 11 = .inl (g.2 0, 6, .inl f11) := (up_ne e1 (by decide) h11)
  have c_4 : S1 84 = .inl (g.2 0, 6, .inl f84) := (up_ne e1 (by decide) h84)
  refine xcopyi E hs hQ hml hl.1 11 (by decide) 84 (by decide) c_3 c_4 q756 (by decide) (by decide) (by decide) (Nat.le_of_ble_eq_true rfl) (Nat.le_of_ble_eq_true rfl) (Nat.le_of_ble_eq_true rfl) (Nat.le_of_ble_eq_true rfl) dX6_copyFrom_20 (fun H locs S5 e5 hQ => ?_)
  have u5 : S5 84 = .inl (g.2 0, 6, .inl (va_cpy f11 f84 (0 : Int32).toNatClampNeg (0 : Int32).toNatClampNeg (6 : Int32).toNatClampNeg)) := up_at e5 rfl
  refine lv_aload_n hx hb dX6_copyFrom_23 rfl (lv_at hl 1 rfl) ?_
  have c_6 : S5 10 = .inr (6, [.int 0, .ref (ad 11), .ref (ad 12), .ref (ad 13), .ref (ad 14)]) := (up_ne e5 (by decide) c_2)
  refine xget E hQ 10 (by decide) c_6 rfl 2 (by decide) q191 rfl dX6_copyFrom_24 ?_
  refine lv_iconst (v := 0) hx hb dX6_copyFrom_27 (by decide) ?_
  refine lv_aload_n hx hb dX6_copyFrom_28 rfl (lv_at hl 0 rfl) ?_
  have c_7 : S5 83 = .inr (6, [.int 0, .ref (ad 84), .ref (ad 85), .ref (ad 86), .ref (ad 87)]) := (up_ne e5 (by decide) u1)
  refine xget E hQ 83 (by decide) c_7 rfl 2 (by decide) q191 rfl dX6_copyFrom_29 ?_
  refine lv_iconst (v := 0) hx hb dX6_copyFrom_32 (by decide) ?_
  refine lv_bipush (v := 6) hx hb dX6_copyFrom_33 (by decide) ?_
  have c_8 : S5 12 = .inl (g.2 0, 6, .inl f12) := (up_ne e5 (by decide) (up_ne e1 (by decide) h12))
  have c_9 : S5 85 = .inl (g.2 0, 6, .inl f85) := (up_ne e5 (by decide) (up_ne e1 (by decide) h85))
  refine xcopyi E hs hQ hml hl.1 12 (by decide) 85 (by decide) c_8 c_9 q756 (by decide) (by decide) (by decide) (Nat.le_of_ble_eq_true rfl) (Nat.le_of_ble_eq_true rfl) (Nat.le_of_ble_eq_true rfl) (Nat.le_of_ble_eq_true rfl) dX6_copyFrom_35 (fun H locs S10 e10 hQ => ?_)
  have u10 : S10 85 = .inl (g.2 0, 6, .inl (va_cpy f12 f85 (0 : Int32).toNatClampNeg (0 : Int32).toNatClampNeg (6 : Int32).toNatClampNeg)) := up_at e10 rfl
  refine lv_aload_n hx hb dX6_copyFrom_38 rfl (lv_at hl 1 rfl) ?_
  have c_11 : S10 10 = .inr (6, [.int 0, .ref (ad 11), .ref (ad 12), .ref (ad 13), .ref (ad 14)]) := (up_ne e10 (by decide) c_6)
  refine xget E hQ 10 (by decide) c_11 rfl 3 (by decide) q193 rfl dX6_copyFrom_39 ?_
  refine lv_iconst (v := 0) hx hb dX6_copyFrom_42 (by decide) ?_
  refine lv_aload_n hx hb dX6_copyFrom_43 rfl (lv_at hl 0 rfl) ?_
  have c_12 : S10 83 = .inr (6, [.int 0, .ref (ad 84), .ref (ad 85), .ref (ad 86), .ref (ad 87)]) := (up_ne e10 (by decide) c_7)
  refine xget E hQ 83 (by decide) c_12 rfl 3 (by decide) q193 rfl dX6_copyFrom_44 ?_
  refine lv_iconst (v := 0) hx hb dX6_copyFrom_47 (by decide) ?_
  refine lv_bipush (v := 6) hx hb dX6_copyFrom_48 (by decide) ?_
  have c_13 : S10 13 = .inl (g.2 0, 6, .inl f13) := (up_ne e10 (by decide) (up_ne e5 (by decide) (up_ne e1 (by decide) h13)))
  have c_14 : S10 86 = .inl (g.2 0, 6, .inl f86) := (up_ne e10 (by decide) (up_ne e5 (by decide) (up_ne e1 (by decide) h86)))
  refine xcopyi E hs hQ hml hl.1 13 (by decide) 86 (by decide) c_13 c_14 q756 (by decide) (by decide) (by decide) (Nat.le_of_ble_eq_true rfl) (Nat.le_of_ble_eq_true rfl) (Nat.le_of_ble_eq_true rfl) (Nat.le_of_ble_eq_true rfl) dX6_copyFrom_50 (fun H locs S15 e15 hQ => ?_)
  have u15 : S15 86 = .inl (g.2 0, 6, .inl (va_cpy f13 f86 (0 : Int32).toNatClampNeg (0 : Int32).toNatClampNeg (6 : Int32).toNatClampNeg)) := up_at e15 rfl
  refine lv_aload_n hx hb dX6_copyFrom_53 rfl (lv_at hl 1 rfl) ?_
  have c_16 : S15 10 = .inr (6, [.int 0, .ref (ad 11), .ref (ad 12), .ref (ad 13), .ref (ad 14)]) := (up_ne e15 (by decide) c_11)
  refine xget E hQ 10 (by decide) c_16 rfl 4 (by decide) q195 rfl dX6_copyFrom_54 ?_
  refine lv_iconst (v := 0) hx hb dX6_copyFrom_57 (by decide) ?_
  refine lv_aload_n hx hb dX6_copyFrom_58 rfl (lv_at hl 0 rfl) ?_
  have c_17 : S15 83 = .inr (6, [.int 0, .ref (ad 84), .ref (ad 85), .ref (ad 86), .ref (ad 87)]) := (up_ne e15 (by decide) c_12)
  refine xget E hQ 83 (by decide) c_17 rfl 4 (by decide) q195 rfl dX6_copyFrom_59 ?_
  refine lv_iconst (v := 0) hx hb dX6_copyFrom_62 (by decide) ?_
  refine lv_bipush (v := 6) hx hb dX6_copyFrom_63 (by decide) ?_
  have c_18 : S15 14 = .inl (g.2 0, 6, .inl f14) := (up_ne e15 (by decide) (up_ne e10 (by decide) (up_ne e5 (by decide) (up_ne e1 (by decide) h14))))
  have c_19 : S15 87 = .inl (g.2 0, 6, .inl f87) := (up_ne e15 (by decide) (up_ne e10 (by decide) (up_ne e5 (by decide) (up_ne e1 (by decide) h87))))
  refine xcopyi E hs hQ hml hl.1 14 (by decide) 87 (by decide) c_18 c_19 q756 (by decide) (by decide) (by decide) (Nat.le_of_ble_eq_true rfl) (Nat.le_of_ble_eq_true rfl) (Nat.le_of_ble_eq_true rfl) (Nat.le_of_ble_eq_true rfl) dX6_copyFrom_65 (fun H locs S20 e20 hQ => ?_)
  have u20 : S20 87 = .inl (g.2 0, 6, .inl (va_cpy f14 f87 (0 : Int32).toNatClampNeg (0 : Int32).toNatClampNeg (6 : Int32).toNatClampNeg)) := up_at e20 rfl
  have c_21 : S20 83 = .inr (6, [.int 0, .ref (ad 84), .ref (ad 85), .ref (ad 86), .ref (ad 87)]) := (up_ne e20 (by decide) c_17)
  have c_22 : S20 84 = .inl (g.2 0, 6, .inl (va_cpy f11 f84 (0 : Int32).toNatClampNeg (0 : Int32).toNatClampNeg (6 : Int32).toNatClampNeg)) := (up_ne e20 (by decide) (up_ne e15 (by decide) (up_ne e10 (by decide) u5)))
  have c_23 : S20 85 = .inl (g.2 0, 6, .inl (va_cpy f12 f85 (0 : Int32).toNatClampNeg (0 : Int32).toNatClampNeg (6 : Int32).toNatClampNeg)) := (up_ne e20 (by decide) (up_ne e15 (by decide) u10))
  have c_24 : S20 86 = .inl (g.2 0, 6, .inl (va_cpy f13 f86 (0 : Int32).toNatClampNeg (0 : Int32).toNatClampNeg (6 : Int32).toNatClampNeg)) := (up_ne e20 (by decide) u15)
  exact xrv E hr hlk hQ (⟨fun j hj => (up_ne e20 (fun h => hj (by subst h; decide)) (up_ne e15 (fun h => hj (by subst h; decide)) (up_ne e10 (fun h => hj (by subst h; decide)) (up_ne e5 (fun h => hj (by subst h; decide)) (up_ne e1 (fun h => hj (by subst h; decide)) rfl))))), c_21, ⟨_, c_22⟩, ⟨_, c_23⟩, ⟨_, c_24⟩, ⟨_, u20⟩⟩) dX6_copyFrom_68
set_option maxHeartbeats 4000000 in
set_option maxRecDepth 100000 in
theorem acCopy_75_2 (l : Launch) (g : GG) (ad : Nat → Nat) (hD : Dj ad 122) (S : SS) (f90 : Nat → Int32) (f91 : Nat → Int32) (f92 : Nat → Int32) (f17 : Nat → Int32) (f18 : Nat → Int32) (f19 : Nat → Int32) (h89 : S 89 = .inr (0, [.int 0, .ref (ad 90), .ref (ad 91), .ref (ad 92)])) (h16 : S 16 = .inr (0, [.int 0, .ref (ad 17), .ref (ad 18), .ref (ad 19)])) (h90 : S 90 = .inl (g.2 0, 40, .inl f90)) (h91 : S 91 = .inl (g.2 0, 40, .inl f91)) (h92 : S 92 = .inl (g.2 0, 40, .inl f92)) (h17 : S 17 = .inl (g.2 0, 40, .inl f17)) (h18 : S 18 = .inl (g.2 0, 40, .inl f18)) (h19 : S 19 = .inl (g.2 0, 40, .inl f19)) : Met l yX0_copyFrom (wG (.code yX0_copyFrom cX0_copyFrom 2 none)) (Rm 1) (XPre g ad 122 S [.ref (ad 89), .ref (ad 16)]) (va_Qv (fun S' => (∀ j, j ∉ ([89, 90, 91, 92] : List Nat) → S' j = S j) ∧ S' 89 = .inr (0, [.int 0, .ref (ad 90), .ref (ad 91), .ref (ad 92)]) ∧ (∃ f : Nat → Int32, S' 90 = .inl (g.2 0, 40, .inl f)) ∧ (∃ f : Nat → Int32, S' 91 = .inl (g.2 0, 40, .inl f)) ∧ (∃ f : Nat → Int32, S' 92 = .inl (g.2 0, 40, .inl f))) (QB g ad 122) (FA ad 122)) 0 0 (FA ad 122) := by
  refine xmet cX0_copyFrom "EbbWreck$Acts" (by decide) rfl (Nat.le_of_ble_eq_true rfl) (fun p e s m below meth c E hr hlk hml hQ ls hl => ?_)
  have hx := E.1
  have hb := E.2.1
  have hs : Sp ad 122 (FA ad 122) := Sp.fa hD
  have hl : lv_has ls 2 [(0, .ref (ad 89)), (1, .ref (ad 16))] := hl
  refine lv_aload_n hx hb dX0_copyFrom_0 rfl (lv_at hl 0 rfl) ?_
  refine lv_aload_n hx hb dX0_copyFrom_1 rfl (lv_at hl 1 rfl) ?_
  refine xget E hQ 16 (by decide) h16 rfl 0 (by decide) q215 rfl dX0_copyFrom_2 ?_
  refine xputi E hs hQ 89 (by decide) h89 rfl 0 (by decide) q215 rfl rfl (Nat.le_of_ble_eq_true rfl) dX0_copyFrom_5 (fun H locs S1 e1 hQ => ?_)
  have u1 : S1 89 = .inr (0, [.int 0, .ref (ad 90), .ref (ad 91), .ref (ad 92)]) := up_at e1 rfl
  refine lv_aload_n hx hb dX0_copyFrom_8 rfl (lv_at hl 1 rfl) ?_
  have c_2 : S1 16 = .inr (0, [.int 0, .ref (ad 17), .ref (ad 18), .ref (ad 19)]) := (up_ne e1 (by decide) h16)
  refine xget E hQ 16 (by decide) c_2 rfl 1 (by decide) q219 rfl dX0_copyFrom_9 ?_
  refine lv_iconst (v := 0) hx hb dX0_copyFrom_12 (by decide) ?_
  refine lv_aload_n hx hb dX0_copyFrom_13 rfl (lv_at hl 0 rfl) ?_
  refine xget E hQ 89 (by decide) u1 rfl 1 (by decide) q219 rfl dX0_copyFrom_14 ?_
  refine lv_iconst (v := 0) hx hb dX0_copyFrom_17 (by decide) ?_
  refine lv_bipush (v := 40) hx hb dX0_copyFrom_18 (by decide) ?_
  have c_3 : S1 17 = .inl (g.2 0, 40, .inl f17) := (up_ne e1 (by decide) h17)
  have c_4 : S1 90 = .inl (g.2 0, 40, .inl f90) := (up_ne e1 (by decide) h90)
  refine xcopyi E hs hQ hml hl.1 17 (by decide) 90 (by decide) c_3 c_4 q761 (by decide) (by decide) (by decide) (Nat.le_of_ble_eq_true rfl) (Nat.le_of_ble_eq_true rfl) (Nat.le_of_ble_eq_true rfl) (Nat.le_of_ble_eq_true rfl) dX0_copyFrom_20 (fun H locs S5 e5 hQ => ?_)
  have u5 : S5 90 = .inl (g.2 0, 40, .inl (va_cpy f17 f90 (0 : Int32).toNatClampNeg (0 : Int32).toNatClampNeg (40 : Int32).toNatClampNeg)) := up_at e5 rfl
  refine lv_aload_n hx hb dX0_copyFrom_23 rfl (lv_at hl 1 rfl) ?_
  have c_6 : S5 16 = .inr (0, [.int 0, .ref (ad 17), .ref (ad 18), .ref (ad 19)]) := (up_ne e5 (by decide) c_2)
  refine xget E hQ 16 (by decide) c_6 rfl 2 (by decide) q222 rfl dX0_copyFrom_24 ?_
  refine lv_iconst (v := 0) hx hb dX0_copyFrom_27 (by decide) ?_
  refine lv_aload_n hx hb dX0_copyFrom_28 rfl (lv_at hl 0 rfl) ?_
  have c_7 : S5 89 = .inr (0, [.int 0, .ref (ad 90), .ref (ad 91), .ref (ad 92)]) := (up_ne e5 (by decide) u1)
  refine xget E hQ 89 (by decide) c_7 rfl 2 (by decide) q222 rfl dX0_copyFrom_29 ?_
  refine lv_iconst (v := 0) hx hb dX0_copyFrom_32 (by decide) ?_
  refine lv_bipush (v := 40) hx hb dX0_copyFrom_33 (by decide) ?_
  have c_8 : S5 18 = .inl (g.2 0, 40, .inl f18) := (up_ne e5 (by decide) (up_ne e1 (by decide) h18))
  have c_9 : S5 91 = .inl (g.2 0, 40, .inl f91) := (up_ne e5 (by decide) (up_ne e1 (by decide) h91))
  refine xcopyi E hs hQ hml hl.1 18 (by decide) 91 (by decide) c_8 c_9 q761 (by decide) (by decide) (by decide) (Nat.le_of_ble_eq_true rfl) (Nat.le_of_ble_eq_true rfl) (Nat.le_of_ble_eq_true rfl) (Nat.le_of_ble_eq_true rfl) dX0_copyFrom_35 (fun H locs S10 e10 hQ => ?_)
  have u10 : S10 91 = .inl (g.2 0, 40, .inl (va_cpy f18 f91 (0 : Int32).toNatClampNeg (0 : Int32).toNatClampNeg (40 : Int32).toNatClampNeg)) := up_at e10 rfl
  refine lv_aload_n hx hb dX0_copyFrom_38 rfl (lv_at hl 1 rfl) ?_
  have c_11 : S10 16 = .inr (0, [.int 0, .ref (ad 17), .ref (ad 18), .ref (ad 19)]) := (up_ne e10 (by decide) c_6)
  refine xget E hQ 16 (by decide) c_11 rfl 3 (by decide) q224 rfl dX0_copyFrom_39 ?_
  refine lv_iconst (v := 0) hx hb dX0_copyFrom_42 (by decide) ?_
  refine lv_aload_n hx hb dX0_copyFrom_43 rfl (lv_at hl 0 rfl) ?_
  have c_12 : S10 89 = .inr (0, [.int 0, .ref (ad 90), .ref (ad 91), .ref (ad 92)]) := (up_ne e10 (by decide) c_7)
  refine xget E hQ 89 (by decide) c_12 rfl 3 (by decide) q224 rfl dX0_copyFrom_44 ?_
  refine lv_iconst (v := 0) hx hb dX0_copyFrom_47 (by decide) ?_
  refine lv_bipush (v := 40) hx hb dX0_copyFrom_48 (by decide) ?_
  have c_13 : S10 19 = .inl (g.2 0, 40, .inl f19) := (up_ne e10 (by decide) (up_ne e5 (by decide) (up_ne e1 (by decide) h19)))
  have c_14 : S10 92 = .inl (g.2 0, 40, .inl f92) := (up_ne e10 (by decide) (up_ne e5 (by decide) (up_ne e1 (by decide) h92)))
  refine xcopyi E hs hQ hml hl.1 19 (by decide) 92 (by decide) c_13 c_14 q761 (by decide) (by decide) (by decide) (Nat.le_of_ble_eq_true rfl) (Nat.le_of_ble_eq_true rfl) (Nat.le_of_ble_eq_true rfl) (Nat.le_of_ble_eq_true rfl) dX0_copyFrom_50 (fun H locs S15 e15 hQ => ?_)
  have u15 : S15 92 = .inl (g.2 0, 40, .inl (va_cpy f19 f92 (0 : Int32).toNatClampNeg (0 : Int32).toNatClampNeg (40 : Int32).toNatClampNeg)) := up_at e15 rfl
  have c_16 : S15 89 = .inr (0, [.int 0, .ref (ad 90), .ref (ad 91), .ref (ad 92)]) := (up_ne e15 (by decide) c_12)
  have c_17 : S15 90 = .inl (g.2 0, 40, .inl (va_cpy f17 f90 (0 : Int32).toNatClampNeg (0 : Int32).toNatClampNeg (40 : Int32).toNatClampNeg)) := (up_ne e15 (by decide) (up_ne e10 (by decide) u5))
  have c_18 : S15 91 = .inl (g.2 0, 40, .inl (va_cpy f18 f91 (0 : Int32).toNatClampNeg (0 : Int32).toNatClampNeg (40 : Int32).toNatClampNeg)) := (up_ne e15 (by decide) u10)
  exact xrv E hr hlk hQ (⟨fun j hj => (up_ne e15 (fun h => hj (by subst h; decide)) (up_ne e10 (fun h => hj (by subst h; decide)) (up_ne e5 (fun h => hj (by subst h; decide)) (up_ne e1 (fun h => hj (by subst h; decide)) rfl)))), c_16, ⟨_, c_17⟩, ⟨_, c_18⟩, ⟨_, u15⟩⟩) dX0_copyFrom_53
set_option maxHeartbeats 4000000 in
set_option maxRecDepth 100000 in
theorem tell_76 (l : Launch) (g : GG) (ad : Nat → Nat) (hD : Dj ad 122) (S : SS) (f77 : Nat → Int32) (h76 : S 76 = .inr (10, [.int 0, .int 0, .int 0, .int 0, .ref (ad 77)])) (h77 : S 77 = .inl (g.2 0, 36, .inl f77)) : Met l yX10_tell (wG (.code yX10_tell cX10_tell 5 none)) (Rm 1) (XPre g ad 122 S [.ref (ad 76), .int 0, .int 0, .int 0]) (va_Qv (fun S' => (∀ j, j ∉ ([76, 77] : List Nat) → S' j = S j) ∧ S' 76 = .inr (10, [.int 0, .int 0, .int 0, .int 0, .ref (ad 77)]) ∧ (∃ f : Nat → Int32, S' 77 = .inl (g.2 0, 36, .inl f))) (QB g ad 122) (FA ad 122)) 0 0 (FA ad 122) := by
  refine xmet cX10_tell "EbbWreck$Tide" (by decide) rfl (Nat.le_of_ble_eq_true rfl) (fun p e s m below meth c E hr hlk hml hQ ls hl => ?_)
  have hx := E.1
  have hb := E.2.1
  have hs : Sp ad 122 (FA ad 122) := Sp.fa hD
  have hl : lv_has ls 5 [(0, .ref (ad 76)), (1, .int 0), (2, .int 0), (3, .int 0)] := hl
  refine lv_aload_n hx hb dX10_tell_0 rfl (lv_at hl 0 rfl) ?_
  refine lv_iload_n hx hb dX10_tell_1 rfl (lv_at hl 1 rfl) ?_
  refine xputi E hs hQ 76 (by decide) h76 rfl 0 (by decide) q155 rfl rfl (Nat.le_of_ble_eq_true rfl) dX10_tell_2 (fun H locs S1 e1 hQ => ?_)
  have u1 : S1 76 = .inr (10, [.int 0, .int 0, .int 0, .int 0, .ref (ad 77)]) := up_at e1 rfl
  refine lv_aload_n hx hb dX10_tell_5 rfl (lv_at hl 0 rfl) ?_
  refine lv_iload_n hx hb dX10_tell_6 rfl (lv_at hl 2 rfl) ?_
  refine xputi E hs hQ 76 (by decide) u1 rfl 1 (by decide) q158 rfl rfl (Nat.le_of_ble_eq_true rfl) dX10_tell_7 (fun H locs S2 e2 hQ => ?_)
  have u2 : S2 76 = .inr (10, [.int 0, .int 0, .int 0, .int 0, .ref (ad 77)]) := up_at e2 rfl
  refine lv_aload_n hx hb dX10_tell_10 rfl (lv_at hl 0 rfl) ?_
  refine lv_iload_n hx hb dX10_tell_11 rfl (lv_at hl 3 rfl) ?_
  refine xputi E hs hQ 76 (by decide) u2 rfl 2 (by decide) q161 rfl rfl (Nat.le_of_ble_eq_true rfl) dX10_tell_12 (fun H locs S3 e3 hQ => ?_)
  have u3 : S3 76 = .inr (10, [.int 0, .int 0, .int 0, .int 0, .ref (ad 77)]) := up_at e3 rfl
  refine lv_aload_n hx hb dX10_tell_15 rfl (lv_at hl 0 rfl) ?_
  refine lv_aload_n hx hb dX10_tell_16 rfl (lv_at hl 0 rfl) ?_
  refine xget E hQ 76 (by decide) u3 rfl 0 (by decide) q155 rfl dX10_tell_17 ?_
  refine lv_aload_n hx hb dX10_tell_20 rfl (lv_at hl 0 rfl) ?_
  refine xget E hQ 76 (by decide) u3 rfl 1 (by decide) q158 rfl dX10_tell_21 ?_
  refine lv_iadd hx hb dX10_tell_24 ?_
  refine sb_at (P := fun z => W _ _ _ _ _ _ _ _ _ _ _ _ _ _ _ (F0 _ _ _ (.int z :: _))) (show (0 : Int32) + 0 = 0 by decide) ?_
  refine lv_aload_n hx hb dX10_tell_25 rfl (lv_at hl 0 rfl) ?_
  refine xget E hQ 76 (by decide) u3 rfl 2 (by decide) q161 rfl dX10_tell_26 ?_
  refine lv_iadd hx hb dX10_tell_29 ?_
  refine sb_at (P := fun z => W _ _ _ _ _ _ _ _ _ _ _ _ _ _ _ (F0 _ _ _ (.int z :: _))) (show (0 : Int32) + 0 = 0 by decide) ?_
  refine lv_aload_n hx hb dX10_tell_30 rfl (lv_at hl 0 rfl) ?_
  refine xget E hQ 76 (by decide) u3 rfl 1 (by decide) q158 rfl dX10_tell_31 ?_
  refine lv_iadd hx hb dX10_tell_34 ?_
  refine sb_at (P := fun z => W _ _ _ _ _ _ _ _ _ _ _ _ _ _ _ (F0 _ _ _ (.int z :: _))) (show (0 : Int32) + 0 = 0 by decide) ?_
  refine xputi E hs hQ 76 (by decide) u3 rfl 3 (by decide) q165 rfl rfl (Nat.le_of_ble_eq_true rfl) dX10_tell_35 (fun H locs S4 e4 hQ => ?_)
  have u4 : S4 76 = .inr (10, [.int 0, .int 0, .int 0, .int 0, .ref (ad 77)]) := up_at e4 rfl
  refine lv_aload_n hx hb dX10_tell_38 rfl (lv_at hl 0 rfl) ?_
  refine xget E hQ 76 (by decide) u4 rfl 4 (by decide) q166 rfl dX10_tell_39 ?_
  refine lv_iconst (v := 1) hx hb dX10_tell_42 (by decide) ?_
  have c_5 : S4 77 = .inl (g.2 0, 36, .inl f77) := (up_ne e4 (by decide) (up_ne e3 (by decide) (up_ne e2 (by decide) (up_ne e1 (by decide) h77))))
  refine xcSv E hs hQ hml hl.1 (uFillI l g ad _ hD S4 77 (by decide) 36 (by decide) f77 1 c_5) mJ7_fill_53178 q596 rfl ⟨by decide, by decide⟩ ⟨by decide, by decide⟩ (Nat.le_of_ble_eq_true rfl) rfl dX10_tell_43 (fun S6 H locs hp6 hQ => ?_)
  have e6 := hp6
  have u6 : S6 77 = .inl (g.2 0, 36, .inl (fillF 1 36 f77)) := up_at e6 rfl
  refine lv_iconst (v := 0) hx hb dX10_tell_46 (by decide) ?_
  refine lv_istore (lv' := [(4, .int 0), (0, .ref (ad 76)), (1, .int 0), (2, .int 0), (3, .int 0)]) hx hb dX10_tell_47 hl (by decide) rfl (fun ls hl => ?_)
  refine lv_iload hx hb dX10_tell_49 (lv_at hl 0 rfl) ?_
  refine lv_aload_n hx hb dX10_tell_51 rfl (lv_at hl 1 rfl) ?_
  have c_7 : S6 76 = .inr (10, [.int 0, .int 0, .int 0, .int 0, .ref (ad 77)]) := (up_ne e6 (by decide) u4)
  refine xget E hQ 76 (by decide) c_7 rfl 0 (by decide) q155 rfl dX10_tell_52 ?_
  refine lv_icmp_ge (tgt := 79) hx hb dX10_tell_55 (by decide) (fun k_8 => ?_) (fun k_8 => absurd k_8 (by decide))
  refine lv_aload_n hx hb dX10_tell_79 rfl (lv_at hl 1 rfl) ?_
  refine xget E hQ 76 (by decide) c_7 rfl 0 (by decide) q155 rfl dX10_tell_80 ?_
  refine lv_aload_n hx hb dX10_tell_83 rfl (lv_at hl 1 rfl) ?_
  refine xget E hQ 76 (by decide) c_7 rfl 1 (by decide) q158 rfl dX10_tell_84 ?_
  refine lv_iadd hx hb dX10_tell_87 ?_
  refine sb_at (P := fun z => W _ _ _ _ _ _ _ _ _ _ _ _ _ _ _ (F0 _ _ _ (.int z :: _))) (show (0 : Int32) + 0 = 0 by decide) ?_
  refine lv_istore (lv' := [(4, .int 0), (0, .ref (ad 76)), (1, .int 0), (2, .int 0), (3, .int 0)]) hx hb dX10_tell_88 hl (by decide) rfl (fun ls hl => ?_)
  refine lv_iload hx hb dX10_tell_90 (lv_at hl 0 rfl) ?_
  refine lv_aload_n hx hb dX10_tell_92 rfl (lv_at hl 1 rfl) ?_
  refine xget E hQ 76 (by decide) c_7 rfl 3 (by decide) q165 rfl dX10_tell_93 ?_
  refine lv_aload_n hx hb dX10_tell_96 rfl (lv_at hl 1 rfl) ?_
  refine xget E hQ 76 (by decide) c_7 rfl 1 (by decide) q158 rfl dX10_tell_97 ?_
  refine lv_isub hx hb dX10_tell_100 ?_
  refine sb_at (P := fun z => W _ _ _ _ _ _ _ _ _ _ _ _ _ _ _ (F0 _ _ _ (.int z :: _))) (show (0 : Int32) - 0 = 0 by decide) ?_
  refine lv_icmp_ge (tgt := 125) hx hb dX10_tell_101 (by decide) (fun k_9 => ?_) (fun k_9 => absurd k_9 (by decide))
  exact xrv E hr hlk hQ (⟨fun j hj => (up_ne e6 (fun h => hj (by subst h; decide)) (up_ne e4 (fun h => hj (by subst h; decide)) (up_ne e3 (fun h => hj (by subst h; decide)) (up_ne e2 (fun h => hj (by subst h; decide)) (up_ne e1 (fun h => hj (by subst h; decide)) rfl))))), c_7, ⟨_, u6⟩⟩) dX10_tell_125
set_option maxHeartbeats 4000000 in
set_option maxRecDepth 100000 in
theorem cCopy_75_2 (l : Launch) (g : GG) (ad : Nat → Nat) (hD : Dj ad 122) (S : SS) (f77 : Nat → Int32) (f78 : Nat → Int32) (f79 : Nat → Int32) (f80 : Nat → Int32) (f81 : Nat → Int32) (f82 : Nat → Int32) (f88 : Nat → Int32) (f5 : Nat → Int32) (f6 : Nat → Int32) (f7 : Nat → Int32) (f8 : Nat → Int32) (f9 : Nat → Int32) (f15 : Nat → Int32) (f84 : Nat → Int32) (f85 : Nat → Int32) (f86 : Nat → Int32) (f87 : Nat → Int32) (f11 : Nat → Int32) (f12 : Nat → Int32) (f13 : Nat → Int32) (f14 : Nat → Int32) (f90 : Nat → Int32) (f91 : Nat → Int32) (f92 : Nat → Int32) (f17 : Nat → Int32) (f18 : Nat → Int32) (f19 : Nat → Int32) (h75 : S 75 = .inr (1, [.int 0, .int 0, .int 0, .ref (ad 76), .ref (ad 78), .ref (ad 79), .int 0, .int 0, .ref (ad 80), .ref (ad 81), .ref (ad 82), .ref (ad 83), .int 0, .ref (ad 88), .ref (ad 89)])) (h2 : S 2 = .inr (1, [.int 0, .int 0, .int 0, .ref (ad 3), .ref (ad 5), .ref (ad 6), .int 0, .int 0, .ref (ad 7), .ref (ad 8), .ref (ad 9), .ref (ad 10), .int 0, .ref (ad 15), .ref (ad 16)])) (h76 : S 76 = .inr (10, [.int 0, .int 0, .int 0, .int 0, .ref (ad 77)])) (h3 : S 3 = .inr (10, [.int 0, .int 0, .int 0, .int 0, .ref (ad 4)])) (h77 : S 77 = .inl (g.2 0, 36, .inl f77)) (h78 : S 78 = .inl (g.2 0, 12, .inl f78)) (h79 : S 79 = .inl (g.2 0, 12, .inl f79)) (h80 : S 80 = .inl (g.2 0, 8, .inl f80)) (h81 : S 81 = .inl (g.2 0, 8, .inl f81)) (h82 : S 82 = .inl (g.2 0, 8, .inl f82)) (h88 : S 88 = .inl (g.2 0, 3, .inl f88)) (h5 : S 5 = .inl (g.2 0, 12, .inl f5)) (h6 : S 6 = .inl (g.2 0, 12, .inl f6)) (h7 : S 7 = .inl (g.2 0, 8, .inl f7)) (h8 : S 8 = .inl (g.2 0, 8, .inl f8)) (h9 : S 9 = .inl (g.2 0, 8, .inl f9)) (h15 : S 15 = .inl (g.2 0, 3, .inl f15)) (h83 : S 83 = .inr (6, [.int 0, .ref (ad 84), .ref (ad 85), .ref (ad 86), .ref (ad 87)])) (h10 : S 10 = .inr (6, [.int 0, .ref (ad 11), .ref (ad 12), .ref (ad 13), .ref (ad 14)])) (h84 : S 84 = .inl (g.2 0, 6, .inl f84)) (h85 : S 85 = .inl (g.2 0, 6, .inl f85)) (h86 : S 86 = .inl (g.2 0, 6, .inl f86)) (h87 : S 87 = .inl (g.2 0, 6, .inl f87)) (h11 : S 11 = .inl (g.2 0, 6, .inl f11)) (h12 : S 12 = .inl (g.2 0, 6, .inl f12)) (h13 : S 13 = .inl (g.2 0, 6, .inl f13)) (h14 : S 14 = .inl (g.2 0, 6, .inl f14)) (h89 : S 89 = .inr (0, [.int 0, .ref (ad 90), .ref (ad 91), .ref (ad 92)])) (h16 : S 16 = .inr (0, [.int 0, .ref (ad 17), .ref (ad 18), .ref (ad 19)])) (h90 : S 90 = .inl (g.2 0, 40, .inl f90)) (h91 : S 91 = .inl (g.2 0, 40, .inl f91)) (h92 : S 92 = .inl (g.2 0, 40, .inl f92)) (h17 : S 17 = .inl (g.2 0, 40, .inl f17)) (h18 : S 18 = .inl (g.2 0, 40, .inl f18)) (h19 : S 19 = .inl (g.2 0, 40, .inl f19)) : Met l yX1_copyFrom (wG (.code yX1_copyFrom cX1_copyFrom 2 none)) (Rm 2) (XPre g ad 122 S [.ref (ad 75), .ref (ad 2)]) (va_Qv (fun S' => (∀ j, j ∉ ([75, 76, 77, 78, 79, 80, 81, 82, 83, 84, 85, 86, 87, 88, 89, 90, 91, 92] : List Nat) → S' j = S j) ∧ S' 75 = .inr (1, [.int 0, .int 0, .int 0, .ref (ad 76), .ref (ad 78), .ref (ad 79), .int 0, .int 0, .ref (ad 80), .ref (ad 81), .ref (ad 82), .ref (ad 83), .int 0, .ref (ad 88), .ref (ad 89)]) ∧ S' 76 = .inr (10, [.int 0, .int 0, .int 0, .int 0, .ref (ad 77)]) ∧ (∃ f : Nat → Int32, S' 77 = .inl (g.2 0, 36, .inl f)) ∧ (∃ f : Nat → Int32, S' 78 = .inl (g.2 0, 12, .inl f)) ∧ (∃ f : Nat → Int32, S' 79 = .inl (g.2 0, 12, .inl f)) ∧ (∃ f : Nat → Int32, S' 80 = .inl (g.2 0, 8, .inl f)) ∧ (∃ f : Nat → Int32, S' 81 = .inl (g.2 0, 8, .inl f)) ∧ (∃ f : Nat → Int32, S' 82 = .inl (g.2 0, 8, .inl f)) ∧ S' 83 = .inr (6, [.int 0, .ref (ad 84), .ref (ad 85), .ref (ad 86), .ref (ad 87)]) ∧ (∃ f : Nat → Int32, S' 84 = .inl (g.2 0, 6, .inl f)) ∧ (∃ f : Nat → Int32, S' 85 = .inl (g.2 0, 6, .inl f)) ∧ (∃ f : Nat → Int32, S' 86 = .inl (g.2 0, 6, .inl f)) ∧ (∃ f : Nat → Int32, S' 87 = .inl (g.2 0, 6, .inl f)) ∧ (∃ f : Nat → Int32, S' 88 = .inl (g.2 0, 3, .inl f)) ∧ S' 89 = .inr (0, [.int 0, .ref (ad 90), .ref (ad 91), .ref (ad 92)]) ∧ (∃ f : Nat → Int32, S' 90 = .inl (g.2 0, 40, .inl f)) ∧ (∃ f : Nat → Int32, S' 91 = .inl (g.2 0, 40, .inl f)) ∧ (∃ f : Nat → Int32, S' 92 = .inl (g.2 0, 40, .inl f))) (QB g ad 122) (FA ad 122)) 0 0 (FA ad 122) := by
  refine xmet cX1_copyFrom "EbbWreck$Coast" (by decide) rfl (Nat.le_of_ble_eq_true rfl) (fun p e s m below meth c E hr hlk hml hQ ls hl => ?_)
  have hx := E.1
  have hb := E.2.1
  have hs : Sp ad 122 (FA ad 122) := Sp.fa hD
  have hl : lv_has ls 2 [(0, .ref (ad 75)), (1, .ref (ad 2))] := hl
  refine lv_aload_n hx hb dX1_copyFrom_0 rfl (lv_at hl 0 rfl) ?_
  refine lv_aload_n hx hb dX1_copyFrom_1 rfl (lv_at hl 1 rfl) ?_
  refine xget E hQ 2 (by decide) h2 rfl 0 (by decide) q236 rfl dX1_copyFrom_2 ?_
  refine xputi E hs hQ 75 (by decide) h75 rfl 0 (by decide) q236 rfl rfl (Nat.le_of_ble_eq_true rfl) dX1_copyFrom_5 (fun H locs S1 e1 hQ => ?_)
  have u1 : S1 75 = .inr (1, [.int 0, .int 0, .int 0, .ref (ad 76), .ref (ad 78), .ref (ad 79), .int 0, .int 0, .ref (ad 80), .ref (ad 81), .ref (ad 82), .ref (ad 83), .int 0, .ref (ad 88), .ref (ad 89)]) := up_at e1 rfl
  refine lv_aload_n hx hb dX1_copyFrom_8 rfl (lv_at hl 0 rfl) ?_
  refine lv_aload_n hx hb dX1_copyFrom_9 rfl (lv_at hl 1 rfl) ?_
  have c_2 : S1 2 = .inr (1, [.int 0, .int 0, .int 0, .ref (ad 3), .ref (ad 5), .ref (ad 6), .int 0, .int 0, .ref (ad 7), .ref (ad 8), .ref (ad 9), .ref (ad 10), .int 0, .ref (ad 15), .ref (ad 16)]) := (up_ne e1 (by decide) h2)
  refine xget E hQ 2 (by decide) c_2 rfl 1 (by decide) q239 rfl dX1_copyFrom_10 ?_
  refine xputi E hs hQ 75 (by decide) u1 rfl 1 (by decide) q239 rfl rfl (Nat.le_of_ble_eq_true rfl) dX1_copyFrom_13 (fun H locs S3 e3 hQ => ?_)
  have u3 : S3 75 = .inr (1, [.int 0, .int 0, .int 0, .ref (ad 76), .ref (ad 78), .ref (ad 79), .int 0, .int 0, .ref (ad 80), .ref (ad 81), .ref (ad 82), .ref (ad 83), .int 0, .ref (ad 88), .ref (ad 89)]) := up_at e3 rfl
  refine lv_aload_n hx hb dX1_copyFrom_16 rfl (lv_at hl 0 rfl) ?_
  refine lv_aload_n hx hb dX1_copyFrom_17 rfl (lv_at hl 1 rfl) ?_
  have c_4 : S3 2 = .inr (1, [.int 0, .int 0, .int 0, .ref (ad 3), .ref (ad 5), .ref (ad 6), .int 0, .int 0, .ref (ad 7), .ref (ad 8), .ref (ad 9), .ref (ad 10), .int 0, .ref (ad 15), .ref (ad 16)]) := (up_ne e3 (by decide) c_2)
  refine xget E hQ 2 (by decide) c_4 rfl 2 (by decide) q247 rfl dX1_copyFrom_18 ?_
  refine xputi E hs hQ 75 (by decide) u3 rfl 2 (by decide) q247 rfl rfl (Nat.le_of_ble_eq_true rfl) dX1_copyFrom_21 (fun H locs S5 e5 hQ => ?_)
  have u5 : S5 75 = .inr (1, [.int 0, .int 0, .int 0, .ref (ad 76), .ref (ad 78), .ref (ad 79), .int 0, .int 0, .ref (ad 80), .ref (ad 81), .ref (ad 82), .ref (ad 83), .int 0, .ref (ad 88), .ref (ad 89)]) := up_at e5 rfl
  refine lv_aload_n hx hb dX1_copyFrom_24 rfl (lv_at hl 0 rfl) ?_
  refine xget E hQ 75 (by decide) u5 rfl 3 (by decide) q251 rfl dX1_copyFrom_25 ?_
  refine lv_aload_n hx hb dX1_copyFrom_28 rfl (lv_at hl 1 rfl) ?_
  have c_6 : S5 2 = .inr (1, [.int 0, .int 0, .int 0, .ref (ad 3), .ref (ad 5), .ref (ad 6), .int 0, .int 0, .ref (ad 7), .ref (ad 8), .ref (ad 9), .ref (ad 10), .int 0, .ref (ad 15), .ref (ad 16)]) := (up_ne e5 (by decide) c_4)
  refine xget E hQ 2 (by decide) c_6 rfl 3 (by decide) q251 rfl dX1_copyFrom_29 ?_
  have c_7 : S5 3 = .inr (10, [.int 0, .int 0, .int 0, .int 0, .ref (ad 4)]) := (up_ne e5 (by decide) (up_ne e3 (by decide) (up_ne e1 (by decide) h3)))
  refine xget E hQ 3 (by decide) c_7 rfl 0 (by decide) q156 rfl dX1_copyFrom_32 ?_
  refine lv_aload_n hx hb dX1_copyFrom_35 rfl (lv_at hl 1 rfl) ?_
  refine xget E hQ 2 (by decide) c_6 rfl 3 (by decide) q251 rfl dX1_copyFrom_36 ?_
  refine xget E hQ 3 (by decide) c_7 rfl 1 (by decide) q159 rfl dX1_copyFrom_39 ?_
  refine lv_aload_n hx hb dX1_copyFrom_42 rfl (lv_at hl 1 rfl) ?_
  refine xget E hQ 2 (by decide) c_6 rfl 3 (by decide) q251 rfl dX1_copyFrom_43 ?_
  refine xget E hQ 3 (by decide) c_7 rfl 2 (by decide) q162 rfl dX1_copyFrom_46 ?_
  have c_8 : S5 77 = .inl (g.2 0, 36, .inl f77) := (up_ne e5 (by decide) (up_ne e3 (by decide) (up_ne e1 (by decide) h77)))
  have c_9 : S5 76 = .inr (10, [.int 0, .int 0, .int 0, .int 0, .ref (ad 77)]) := (up_ne e5 (by decide) (up_ne e3 (by decide) (up_ne e1 (by decide) h76)))
  refine xcVv E hs hQ hml hl.1 76 (tell_76 l g ad hD S5 f77 c_9 c_8) mX10_tell q592 (by decide) c_9 rfl rfl ⟨by decide, by decide⟩ ⟨by decide, by decide⟩ (Nat.le_of_ble_eq_true rfl) rfl dX1_copyFrom_49 (fun S10 H locs hp10 hQ _ => ?_)
  obtain ⟨o10, v10_76, ⟨f10_77, v10_77⟩⟩ := hp10
  refine lv_aload_n hx hb dX1_copyFrom_52 rfl (lv_at hl 1 rfl) ?_
  have c_11 : S10 2 = .inr (1, [.int 0, .int 0, .int 0, .ref (ad 3), .ref (ad 5), .ref (ad 6), .int 0, .int 0, .ref (ad 7), .ref (ad 8), .ref (ad 9), .ref (ad 10), .int 0, .ref (ad 15), .ref (ad 16)]) := ((o10 2 (by decide)).trans c_6)
  refine xget E hQ 2 (by decide) c_11 rfl 4 (by decide) q257 rfl dX1_copyFrom_53 ?_
  refine lv_iconst (v := 0) hx hb dX1_copyFrom_56 (by decide) ?_
  refine lv_aload_n hx hb dX1_copyFrom_57 rfl (lv_at hl 0 rfl) ?_
  have c_12 : S10 75 = .inr (1, [.int 0, .int 0, .int 0, .ref (ad 76), .ref (ad 78), .ref (ad 79), .int 0, .int 0, .ref (ad 80), .ref (ad 81), .ref (ad 82), .ref (ad 83), .int 0, .ref (ad 88), .ref (ad 89)]) := ((o10 75 (by decide)).trans u5)
  refine xget E hQ 75 (by decide) c_12 rfl 4 (by decide) q257 rfl dX1_copyFrom_58 ?_
  refine lv_iconst (v := 0) hx hb dX1_copyFrom_61 (by decide) ?_
  refine lv_bipush (v := 12) hx hb dX1_copyFrom_62 (by decide) ?_
  have c_13 : S10 5 = .inl (g.2 0, 12, .inl f5) := ((o10 5 (by decide)).trans (up_ne e5 (by decide) (up_ne e3 (by decide) (up_ne e1 (by decide) h5))))
  have c_14 : S10 78 = .inl (g.2 0, 12, .inl f78) := ((o10 78 (by decide)).trans (up_ne e5 (by decide) (up_ne e3 (by decide) (up_ne e1 (by decide) h78))))
  refine xcopyi E hs hQ hml hl.1 5 (by decide) 78 (by decide) c_13 c_14 q749 (by decide) (by decide) (by decide) (Nat.le_of_ble_eq_true rfl) (Nat.le_of_ble_eq_true rfl) (Nat.le_of_ble_eq_true rfl) (Nat.le_of_ble_eq_true rfl) dX1_copyFrom_64 (fun H locs S15 e15 hQ => ?_)
  have u15 : S15 78 = .inl (g.2 0, 12, .inl (va_cpy f5 f78 (0 : Int32).toNatClampNeg (0 : Int32).toNatClampNeg (12 : Int32).toNatClampNeg)) := up_at e15 rfl
  refine lv_aload_n hx hb dX1_copyFrom_67 rfl (lv_at hl 1 rfl) ?_
  have c_16 : S15 2 = .inr (1, [.int 0, .int 0, .int 0, .ref (ad 3), .ref (ad 5), .ref (ad 6), .int 0, .int 0, .ref (ad 7), .ref (ad 8), .ref (ad 9), .ref (ad 10), .int 0, .ref (ad 15), .ref (ad 16)]) := (up_ne e15 (by decide) c_11)
  refine xget E hQ 2 (by decide) c_16 rfl 5 (by decide) q260 rfl dX1_copyFrom_68 ?_
  refine lv_iconst (v := 0) hx hb dX1_copyFrom_71 (by decide) ?_
  refine lv_aload_n hx hb dX1_copyFrom_72 rfl (lv_at hl 0 rfl) ?_
  have c_17 : S15 75 = .inr (1, [.int 0, .int 0, .int 0, .ref (ad 76), .ref (ad 78), .ref (ad 79), .int 0, .int 0, .ref (ad 80), .ref (ad 81), .ref (ad 82), .ref (ad 83), .int 0, .ref (ad 88), .ref (ad 89)]) := (up_ne e15 (by decide) c_12)
  refine xget E hQ 75 (by decide) c_17 rfl 5 (by decide) q260 rfl dX1_copyFrom_73 ?_
  refine lv_iconst (v := 0) hx hb dX1_copyFrom_76 (by decide) ?_
  refine lv_bipush (v := 12) hx hb dX1_copyFrom_77 (by decide) ?_
  have c_18 : S15 6 = .inl (g.2 0, 12, .inl f6) := (up_ne e15 (by decide) ((o10 6 (by decide)).trans (up_ne e5 (by decide) (up_ne e3 (by decide) (up_ne e1 (by decide) h6)))))
  have c_19 : S15 79 = .inl (g.2 0, 12, .inl f79) := (up_ne e15 (by decide) ((o10 79 (by decide)).trans (up_ne e5 (by decide) (up_ne e3 (by decide) (up_ne e1 (by decide) h79)))))
  refine xcopyi E hs hQ hml hl.1 6 (by decide) 79 (by decide) c_18 c_19 q749 (by decide) (by decide) (by decide) (Nat.le_of_ble_eq_true rfl) (Nat.le_of_ble_eq_true rfl) (Nat.le_of_ble_eq_true rfl) (Nat.le_of_ble_eq_true rfl) dX1_copyFrom_79 (fun H locs S20 e20 hQ => ?_)
  have u20 : S20 79 = .inl (g.2 0, 12, .inl (va_cpy f6 f79 (0 : Int32).toNatClampNeg (0 : Int32).toNatClampNeg (12 : Int32).toNatClampNeg)) := up_at e20 rfl
  refine lv_aload_n hx hb dX1_copyFrom_82 rfl (lv_at hl 0 rfl) ?_
  refine lv_aload_n hx hb dX1_copyFrom_83 rfl (lv_at hl 1 rfl) ?_
  have c_21 : S20 2 = .inr (1, [.int 0, .int 0, .int 0, .ref (ad 3), .ref (ad 5), .ref (ad 6), .int 0, .int 0, .ref (ad 7), .ref (ad 8), .ref (ad 9), .ref (ad 10), .int 0, .ref (ad 15), .ref (ad 16)]) := (up_ne e20 (by decide) c_16)
  refine xget E hQ 2 (by decide) c_21 rfl 6 (by decide) q263 rfl dX1_copyFrom_84 ?_
  have c_22 : S20 75 = .inr (1, [.int 0, .int 0, .int 0, .ref (ad 76), .ref (ad 78), .ref (ad 79), .int 0, .int 0, .ref (ad 80), .ref (ad 81), .ref (ad 82), .ref (ad 83), .int 0, .ref (ad 88), .ref (ad 89)]) := (up_ne e20 (by decide) c_17)
  refine xputi E hs hQ 75 (by decide) c_22 rfl 6 (by decide) q263 rfl rfl (Nat.le_of_ble_eq_true rfl) dX1_copyFrom_87 (fun H locs S23 e23 hQ => ?_)
  have u23 : S23 75 = .inr (1, [.int 0, .int 0, .int 0, .ref (ad 76), .ref (ad 78), .ref (ad 79), .int 0, .int 0, .ref (ad 80), .ref (ad 81), .ref (ad 82), .ref (ad 83), .int 0, .ref (ad 88), .ref (ad 89)]) := up_at e23 rfl
  refine lv_aload_n hx hb dX1_copyFrom_90 rfl (lv_at hl 0 rfl) ?_
  refine lv_aload_n hx hb dX1_copyFrom_91 rfl (lv_at hl 1 rfl) ?_
  have c_24 : S23 2 = .inr (1, [.int 0, .int 0, .int 0, .ref (ad 3), .ref (ad 5), .ref (ad 6), .int 0, .int 0, .ref (ad 7), .ref (ad 8), .ref (ad 9), .ref (ad 10), .int 0, .ref (ad 15), .ref (ad 16)]) := (up_ne e23 (by decide) c_21)
  refine xget E hQ 2 (by decide) c_24 rfl 7 (by decide) q270 rfl dX1_copyFrom_92 ?_
  refine xputi E hs hQ 75 (by decide) u23 rfl 7 (by decide) q270 rfl rfl (Nat.le_of_ble_eq_true rfl) dX1_copyFrom_95 (fun H locs S25 e25 hQ => ?_)
  have u25 : S25 75 = .inr (1, [.int 0, .int 0, .int 0, .ref (ad 76), .ref (ad 78), .ref (ad 79), .int 0, .int 0, .ref (ad 80), .ref (ad 81), .ref (ad 82), .ref (ad 83), .int 0, .ref (ad 88), .ref (ad 89)]) := up_at e25 rfl
  refine lv_aload_n hx hb dX1_copyFrom_98 rfl (lv_at hl 1 rfl) ?_
  have c_26 : S25 2 = .inr (1, [.int 0, .int 0, .int 0, .ref (ad 3), .ref (ad 5), .ref (ad 6), .int 0, .int 0, .ref (ad 7), .ref (ad 8), .ref (ad 9), .ref (ad 10), .int 0, .ref (ad 15), .ref (ad 16)]) := (up_ne e25 (by decide) c_24)
  refine xget E hQ 2 (by decide) c_26 rfl 8 (by decide) q274 rfl dX1_copyFrom_99 ?_
  refine lv_iconst (v := 0) hx hb dX1_copyFrom_102 (by decide) ?_
  refine lv_aload_n hx hb dX1_copyFrom_103 rfl (lv_at hl 0 rfl) ?_
  refine xget E hQ 75 (by decide) u25 rfl 8 (by decide) q274 rfl dX1_copyFrom_104 ?_
  refine lv_iconst (v := 0) hx hb dX1_copyFrom_107 (by decide) ?_
  refine lv_bipush (v := 8) hx hb dX1_copyFrom_108 (by decide) ?_
  have c_27 : S25 7 = .inl (g.2 0, 8, .inl f7) := (up_ne e25 (by decide) (up_ne e23 (by decide) (up_ne e20 (by decide) (up_ne e15 (by decide) ((o10 7 (by decide)).trans (up_ne e5 (by decide) (up_ne e3 (by decide) (up_ne e1 (by decide) h7))))))))
  have c_28 : S25 80 = .inl (g.2 0, 8, .inl f80) := (up_ne e25 (by decide) (up_ne e23 (by decide) (up_ne e20 (by decide) (up_ne e15 (by decide) ((o10 80 (by decide)).trans (up_ne e5 (by decide) (up_ne e3 (by decide) (up_ne e1 (by decide) h80))))))))
  refine xcopyi E hs hQ hml hl.1 7 (by decide) 80 (by decide) c_27 c_28 q749 (by decide) (by decide) (by decide) (Nat.le_of_ble_eq_true rfl) (Nat.le_of_ble_eq_true rfl) (Nat.le_of_ble_eq_true rfl) (Nat.le_of_ble_eq_true rfl) dX1_copyFrom_110 (fun H locs S29 e29 hQ => ?_)
  have u29 : S29 80 = .inl (g.2 0, 8, .inl (va_cpy f7 f80 (0 : Int32).toNatClampNeg (0 : Int32).toNatClampNeg (8 : Int32).toNatClampNeg)) := up_at e29 rfl
  refine lv_aload_n hx hb dX1_copyFrom_113 rfl (lv_at hl 1 rfl) ?_
  have c_30 : S29 2 = .inr (1, [.int 0, .int 0, .int 0, .ref (ad 3), .ref (ad 5), .ref (ad 6), .int 0, .int 0, .ref (ad 7), .ref (ad 8), .ref (ad 9), .ref (ad 10), .int 0, .ref (ad 15), .ref (ad 16)]) := (up_ne e29 (by decide) c_26)
  refine xget E hQ 2 (by decide) c_30 rfl 9 (by decide) q279 rfl dX1_copyFrom_114 ?_
  refine lv_iconst (v := 0) hx hb dX1_copyFrom_117 (by decide) ?_
  refine lv_aload_n hx hb dX1_copyFrom_118 rfl (lv_at hl 0 rfl) ?_
  have c_31 : S29 75 = .inr (1, [.int 0, .int 0, .int 0, .ref (ad 76), .ref (ad 78), .ref (ad 79), .int 0, .int 0, .ref (ad 80), .ref (ad 81), .ref (ad 82), .ref (ad 83), .int 0, .ref (ad 88), .ref (ad 89)]) := (up_ne e29 (by decide) u25)
  refine xget E hQ 75 (by decide) c_31 rfl 9 (by decide) q279 rfl dX1_copyFrom_119 ?_
  refine lv_iconst (v := 0) hx hb dX1_copyFrom_122 (by decide) ?_
  refine lv_bipush (v := 8) hx hb dX1_copyFrom_123 (by decide) ?_
  have c_32 : S29 8 = .inl (g.2 0, 8, .inl f8) := (up_ne e29 (by decide) (up_ne e25 (by decide) (up_ne e23 (by decide) (up_ne e20 (by decide) (up_ne e15 (by decide) ((o10 8 (by decide)).trans (up_ne e5 (by decide) (up_ne e3 (by decide) (up_ne e1 (by decide) h8)))))))))
  have c_33 : S29 81 = .inl (g.2 0, 8, .inl f81) := (up_ne e29 (by decide) (up_ne e25 (by decide) (up_ne e23 (by decide) (up_ne e20 (by decide) (up_ne e15 (by decide) ((o10 81 (by decide)).trans (up_ne e5 (by decide) (up_ne e3 (by decide) (up_ne e1 (by decide) h81)))))))))
  refine xcopyi E hs hQ hml hl.1 8 (by decide) 81 (by decide) c_32 c_33 q749 (by decide) (by decide) (by decide) (Nat.le_of_ble_eq_true rfl) (Nat.le_of_ble_eq_true rfl) (Nat.le_of_ble_eq_true rfl) (Nat.le_of_ble_eq_true rfl) dX1_copyFrom_125 (fun H locs S34 e34 hQ => ?_)
  have u34 : S34 81 = .inl (g.2 0, 8, .inl (va_cpy f8 f81 (0 : Int32).toNatClampNeg (0 : Int32).toNatClampNeg (8 : Int32).toNatClampNeg)) := up_at e34 rfl
  refine lv_aload_n hx hb dX1_copyFrom_128 rfl (lv_at hl 1 rfl) ?_
  have c_35 : S34 2 = .inr (1, [.int 0, .int 0, .int 0, .ref (ad 3), .ref (ad 5), .ref (ad 6), .int 0, .int 0, .ref (ad 7), .ref (ad 8), .ref (ad 9), .ref (ad 10), .int 0, .ref (ad 15), .ref (ad 16)]) := (up_ne e34 (by decide) c_30)
  refine xget E hQ 2 (by decide) c_35 rfl 10 (by decide) q284 rfl dX1_copyFrom_129 ?_
  refine lv_iconst (v := 0) hx hb dX1_copyFrom_132 (by decide) ?_
  refine lv_aload_n hx hb dX1_copyFrom_133 rfl (lv_at hl 0 rfl) ?_
  have c_36 : S34 75 = .inr (1, [.int 0, .int 0, .int 0, .ref (ad 76), .ref (ad 78), .ref (ad 79), .int 0, .int 0, .ref (ad 80), .ref (ad 81), .ref (ad 82), .ref (ad 83), .int 0, .ref (ad 88), .ref (ad 89)]) := (up_ne e34 (by decide) c_31)
  refine xget E hQ 75 (by decide) c_36 rfl 10 (by decide) q284 rfl dX1_copyFrom_134 ?_
  refine lv_iconst (v := 0) hx hb dX1_copyFrom_137 (by decide) ?_
  refine lv_bipush (v := 8) hx hb dX1_copyFrom_138 (by decide) ?_
  have c_37 : S34 9 = .inl (g.2 0, 8, .inl f9) := (up_ne e34 (by decide) (up_ne e29 (by decide) (up_ne e25 (by decide) (up_ne e23 (by decide) (up_ne e20 (by decide) (up_ne e15 (by decide) ((o10 9 (by decide)).trans (up_ne e5 (by decide) (up_ne e3 (by decide) (up_ne e1 (by decide) h9))))))))))
  have c_38 : S34 82 = .inl (g.2 0, 8, .inl f82) := (up_ne e34 (by decide) (up_ne e29 (by decide) (up_ne e25 (by decide) (up_ne e23 (by decide) (up_ne e20 (by decide) (up_ne e15 (by decide) ((o10 82 (by decide)).trans (up_ne e5 (by decide) (up_ne e3 (by decide) (up_ne e1 (by decide) h82))))))))))
  refine xcopyi E hs hQ hml hl.1 9 (by decide) 82 (by decide) c_37 c_38 q749 (by decide) (by decide) (by decide) (Nat.le_of_ble_eq_true rfl) (Nat.le_of_ble_eq_true rfl) (Nat.le_of_ble_eq_true rfl) (Nat.le_of_ble_eq_true rfl) dX1_copyFrom_140 (fun H locs S39 e39 hQ => ?_)
  have u39 : S39 82 = .inl (g.2 0, 8, .inl (va_cpy f9 f82 (0 : Int32).toNatClampNeg (0 : Int32).toNatClampNeg (8 : Int32).toNatClampNeg)) := up_at e39 rfl
  refine lv_aload_n hx hb dX1_copyFrom_143 rfl (lv_at hl 0 rfl) ?_
  have c_40 : S39 75 = .inr (1, [.int 0, .int 0, .int 0, .ref (ad 76), .ref (ad 78), .ref (ad 79), .int 0, .int 0, .ref (ad 80), .ref (ad 81), .ref (ad 82), .ref (ad 83), .int 0, .ref (ad 88), .ref (ad 89)]) := (up_ne e39 (by decide) c_36)
  refine xget E hQ 75 (by decide) c_40 rfl 11 (by decide) q289 rfl dX1_copyFrom_144 ?_
  refine lv_aload_n hx hb dX1_copyFrom_147 rfl (lv_at hl 1 rfl) ?_
  have c_41 : S39 2 = .inr (1, [.int 0, .int 0, .int 0, .ref (ad 3), .ref (ad 5), .ref (ad 6), .int 0, .int 0, .ref (ad 7), .ref (ad 8), .ref (ad 9), .ref (ad 10), .int 0, .ref (ad 15), .ref (ad 16)]) := (up_ne e39 (by decide) c_35)
  refine xget E hQ 2 (by decide) c_41 rfl 11 (by decide) q289 rfl dX1_copyFrom_148 ?_
  have c_42 : S39 84 = .inl (g.2 0, 6, .inl f84) := (up_ne e39 (by decide) (up_ne e34 (by decide) (up_ne e29 (by decide) (up_ne e25 (by decide) (up_ne e23 (by decide) (up_ne e20 (by decide) (up_ne e15 (by decide) ((o10 84 (by decide)).trans (up_ne e5 (by decide) (up_ne e3 (by decide) (up_ne e1 (by decide) h84)))))))))))
  have c_43 : S39 85 = .inl (g.2 0, 6, .inl f85) := (up_ne e39 (by decide) (up_ne e34 (by decide) (up_ne e29 (by decide) (up_ne e25 (by decide) (up_ne e23 (by decide) (up_ne e20 (by decide) (up_ne e15 (by decide) ((o10 85 (by decide)).trans (up_ne e5 (by decide) (up_ne e3 (by decide) (up_ne e1 (by decide) h85)))))))))))
  have c_44 : S39 86 = .inl (g.2 0, 6, .inl f86) := (up_ne e39 (by decide) (up_ne e34 (by decide) (up_ne e29 (by decide) (up_ne e25 (by decide) (up_ne e23 (by decide) (up_ne e20 (by decide) (up_ne e15 (by decide) ((o10 86 (by decide)).trans (up_ne e5 (by decide) (up_ne e3 (by decide) (up_ne e1 (by decide) h86)))))))))))
  have c_45 : S39 87 = .inl (g.2 0, 6, .inl f87) := (up_ne e39 (by decide) (up_ne e34 (by decide) (up_ne e29 (by decide) (up_ne e25 (by decide) (up_ne e23 (by decide) (up_ne e20 (by decide) (up_ne e15 (by decide) ((o10 87 (by decide)).trans (up_ne e5 (by decide) (up_ne e3 (by decide) (up_ne e1 (by decide) h87)))))))))))
  have c_46 : S39 11 = .inl (g.2 0, 6, .inl f11) := (up_ne e39 (by decide) (up_ne e34 (by decide) (up_ne e29 (by decide) (up_ne e25 (by decide) (up_ne e23 (by decide) (up_ne e20 (by decide) (up_ne e15 (by decide) ((o10 11 (by decide)).trans (up_ne e5 (by decide) (up_ne e3 (by decide) (up_ne e1 (by decide) h11)))))))))))
  have c_47 : S39 12 = .inl (g.2 0, 6, .inl f12) := (up_ne e39 (by decide) (up_ne e34 (by decide) (up_ne e29 (by decide) (up_ne e25 (by decide) (up_ne e23 (by decide) (up_ne e20 (by decide) (up_ne e15 (by decide) ((o10 12 (by decide)).trans (up_ne e5 (by decide) (up_ne e3 (by decide) (up_ne e1 (by decide) h12)))))))))))
  have c_48 : S39 13 = .inl (g.2 0, 6, .inl f13) := (up_ne e39 (by decide) (up_ne e34 (by decide) (up_ne e29 (by decide) (up_ne e25 (by decide) (up_ne e23 (by decide) (up_ne e20 (by decide) (up_ne e15 (by decide) ((o10 13 (by decide)).trans (up_ne e5 (by decide) (up_ne e3 (by decide) (up_ne e1 (by decide) h13)))))))))))
  have c_49 : S39 14 = .inl (g.2 0, 6, .inl f14) := (up_ne e39 (by decide) (up_ne e34 (by decide) (up_ne e29 (by decide) (up_ne e25 (by decide) (up_ne e23 (by decide) (up_ne e20 (by decide) (up_ne e15 (by decide) ((o10 14 (by decide)).trans (up_ne e5 (by decide) (up_ne e3 (by decide) (up_ne e1 (by decide) h14)))))))))))
  have c_50 : S39 83 = .inr (6, [.int 0, .ref (ad 84), .ref (ad 85), .ref (ad 86), .ref (ad 87)]) := (up_ne e39 (by decide) (up_ne e34 (by decide) (up_ne e29 (by decide) (up_ne e25 (by decide) (up_ne e23 (by decide) (up_ne e20 (by decide) (up_ne e15 (by decide) ((o10 83 (by decide)).trans (up_ne e5 (by decide) (up_ne e3 (by decide) (up_ne e1 (by decide) h83)))))))))))
  have c_51 : S39 10 = .inr (6, [.int 0, .ref (ad 11), .ref (ad 12), .ref (ad 13), .ref (ad 14)]) := (up_ne e39 (by decide) (up_ne e34 (by decide) (up_ne e29 (by decide) (up_ne e25 (by decide) (up_ne e23 (by decide) (up_ne e20 (by decide) (up_ne e15 (by decide) ((o10 10 (by decide)).trans (up_ne e5 (by decide) (up_ne e3 (by decide) (up_ne e1 (by decide) h10)))))))))))
  refine xcVv E hs hQ hml hl.1 83 (rbCopy_75_2 l g ad hD S39 f84 f85 f86 f87 f11 f12 f13 f14 c_50 c_51 c_42 c_43 c_44 c_45 c_46 c_47 c_48 c_49) mX6_copyFrom q752 (by decide) c_50 rfl rfl ⟨by decide, by decide⟩ ⟨by decide, by decide⟩ (Nat.le_of_ble_eq_true rfl) rfl dX1_copyFrom_151 (fun S52 H locs hp52 hQ _ => ?_)
  obtain ⟨o52, v52_83, ⟨f52_84, v52_84⟩, ⟨f52_85, v52_85⟩, ⟨f52_86, v52_86⟩, ⟨f52_87, v52_87⟩⟩ := hp52
  refine lv_aload_n hx hb dX1_copyFrom_154 rfl (lv_at hl 0 rfl) ?_
  refine lv_aload_n hx hb dX1_copyFrom_155 rfl (lv_at hl 1 rfl) ?_
  have c_53 : S52 2 = .inr (1, [.int 0, .int 0, .int 0, .ref (ad 3), .ref (ad 5), .ref (ad 6), .int 0, .int 0, .ref (ad 7), .ref (ad 8), .ref (ad 9), .ref (ad 10), .int 0, .ref (ad 15), .ref (ad 16)]) := ((o52 2 (by decide)).trans c_41)
  refine xget E hQ 2 (by decide) c_53 rfl 12 (by decide) q293 rfl dX1_copyFrom_156 ?_
  have c_54 : S52 75 = .inr (1, [.int 0, .int 0, .int 0, .ref (ad 76), .ref (ad 78), .ref (ad 79), .int 0, .int 0, .ref (ad 80), .ref (ad 81), .ref (ad 82), .ref (ad 83), .int 0, .ref (ad 88), .ref (ad 89)]) := ((o52 75 (by decide)).trans c_40)
  refine xputi E hs hQ 75 (by decide) c_54 rfl 12 (by decide) q293 rfl rfl (Nat.le_of_ble_eq_true rfl) dX1_copyFrom_159 (fun H locs S55 e55 hQ => ?_)
  have u55 : S55 75 = .inr (1, [.int 0, .int 0, .int 0, .ref (ad 76), .ref (ad 78), .ref (ad 79), .int 0, .int 0, .ref (ad 80), .ref (ad 81), .ref (ad 82), .ref (ad 83), .int 0, .ref (ad 88), .ref (ad 89)]) := up_at e55 rfl
  refine lv_aload_n hx hb dX1_copyFrom_162 rfl (lv_at hl 1 rfl) ?_
  have c_56 : S55 2 = .inr (1, [.int 0, .int 0, .int 0, .ref (ad 3), .ref (ad 5), .ref (ad 6), .int 0, .int 0, .ref (ad 7), .ref (ad 8), .ref (ad 9), .ref (ad 10), .int 0, .ref (ad 15), .ref (ad 16)]) := (up_ne e55 (by decide) c_53)
  refine xget E hQ 2 (by decide) c_56 rfl 13 (by decide) q297 rfl dX1_copyFrom_163 ?_
  refine lv_iconst (v := 0) hx hb dX1_copyFrom_166 (by decide) ?_
  refine lv_aload_n hx hb dX1_copyFrom_167 rfl (lv_at hl 0 rfl) ?_
  refine xget E hQ 75 (by decide) u55 rfl 13 (by decide) q297 rfl dX1_copyFrom_168 ?_
  refine lv_iconst (v := 0) hx hb dX1_copyFrom_171 (by decide) ?_
  refine lv_iconst (v := 3) hx hb dX1_copyFrom_172 (by decide) ?_
  have c_57 : S55 15 = .inl (g.2 0, 3, .inl f15) := (up_ne e55 (by decide) ((o52 15 (by decide)).trans (up_ne e39 (by decide) (up_ne e34 (by decide) (up_ne e29 (by decide) (up_ne e25 (by decide) (up_ne e23 (by decide) (up_ne e20 (by decide) (up_ne e15 (by decide) ((o10 15 (by decide)).trans (up_ne e5 (by decide) (up_ne e3 (by decide) (up_ne e1 (by decide) h15)))))))))))))
  have c_58 : S55 88 = .inl (g.2 0, 3, .inl f88) := (up_ne e55 (by decide) ((o52 88 (by decide)).trans (up_ne e39 (by decide) (up_ne e34 (by decide) (up_ne e29 (by decide) (up_ne e25 (by decide) (up_ne e23 (by decide) (up_ne e20 (by decide) (up_ne e15 (by decide) ((o10 88 (by decide)).trans (up_ne e5 (by decide) (up_ne e3 (by decide) (up_ne e1 (by decide) h88)))))))))))))
  refine xcopyi E hs hQ hml hl.1 15 (by decide) 88 (by decide) c_57 c_58 q749 (by decide) (by decide) (by decide) (Nat.le_of_ble_eq_true rfl) (Nat.le_of_ble_eq_true rfl) (Nat.le_of_ble_eq_true rfl) (Nat.le_of_ble_eq_true rfl) dX1_copyFrom_173 (fun H locs S59 e59 hQ => ?_)
  have u59 : S59 88 = .inl (g.2 0, 3, .inl (va_cpy f15 f88 (0 : Int32).toNatClampNeg (0 : Int32).toNatClampNeg (3 : Int32).toNatClampNeg)) := up_at e59 rfl
  refine lv_aload_n hx hb dX1_copyFrom_176 rfl (lv_at hl 0 rfl) ?_
  have c_60 : S59 75 = .inr (1, [.int 0, .int 0, .int 0, .ref (ad 76), .ref (ad 78), .ref (ad 79), .int 0, .int 0, .ref (ad 80), .ref (ad 81), .ref (ad 82), .ref (ad 83), .int 0, .ref (ad 88), .ref (ad 89)]) := (up_ne e59 (by decide) u55)
  refine xget E hQ 75 (by decide) c_60 rfl 14 (by decide) q301 rfl dX1_copyFrom_177 ?_
  refine lv_aload_n hx hb dX1_copyFrom_180 rfl (lv_at hl 1 rfl) ?_
  have c_61 : S59 2 = .inr (1, [.int 0, .int 0, .int 0, .ref (ad 3), .ref (ad 5), .ref (ad 6), .int 0, .int 0, .ref (ad 7), .ref (ad 8), .ref (ad 9), .ref (ad 10), .int 0, .ref (ad 15), .ref (ad 16)]) := (up_ne e59 (by decide) c_56)
  refine xget E hQ 2 (by decide) c_61 rfl 14 (by decide) q301 rfl dX1_copyFrom_181 ?_
  have c_62 : S59 90 = .inl (g.2 0, 40, .inl f90) := (up_ne e59 (by decide) (up_ne e55 (by decide) ((o52 90 (by decide)).trans (up_ne e39 (by decide) (up_ne e34 (by decide) (up_ne e29 (by decide) (up_ne e25 (by decide) (up_ne e23 (by decide) (up_ne e20 (by decide) (up_ne e15 (by decide) ((o10 90 (by decide)).trans (up_ne e5 (by decide) (up_ne e3 (by decide) (up_ne e1 (by decide) h90))))))))))))))
  have c_63 : S59 91 = .inl (g.2 0, 40, .inl f91) := (up_ne e59 (by decide) (up_ne e55 (by decide) ((o52 91 (by decide)).trans (up_ne e39 (by decide) (up_ne e34 (by decide) (up_ne e29 (by decide) (up_ne e25 (by decide) (up_ne e23 (by decide) (up_ne e20 (by decide) (up_ne e15 (by decide) ((o10 91 (by decide)).trans (up_ne e5 (by decide) (up_ne e3 (by decide) (up_ne e1 (by decide) h91))))))))))))))
  have c_64 : S59 92 = .inl (g.2 0, 40, .inl f92) := (up_ne e59 (by decide) (up_ne e55 (by decide) ((o52 92 (by decide)).trans (up_ne e39 (by decide) (up_ne e34 (by decide) (up_ne e29 (by decide) (up_ne e25 (by decide) (up_ne e23 (by decide) (up_ne e20 (by decide) (up_ne e15 (by decide) ((o10 92 (by decide)).trans (up_ne e5 (by decide) (up_ne e3 (by decide) (up_ne e1 (by decide) h92))))))))))))))
  have c_65 : S59 17 = .inl (g.2 0, 40, .inl f17) := (up_ne e59 (by decide) (up_ne e55 (by decide) ((o52 17 (by decide)).trans (up_ne e39 (by decide) (up_ne e34 (by decide) (up_ne e29 (by decide) (up_ne e25 (by decide) (up_ne e23 (by decide) (up_ne e20 (by decide) (up_ne e15 (by decide) ((o10 17 (by decide)).trans (up_ne e5 (by decide) (up_ne e3 (by decide) (up_ne e1 (by decide) h17))))))))))))))
  have c_66 : S59 18 = .inl (g.2 0, 40, .inl f18) := (up_ne e59 (by decide) (up_ne e55 (by decide) ((o52 18 (by decide)).trans (up_ne e39 (by decide) (up_ne e34 (by decide) (up_ne e29 (by decide) (up_ne e25 (by decide) (up_ne e23 (by decide) (up_ne e20 (by decide) (up_ne e15 (by decide) ((o10 18 (by decide)).trans (up_ne e5 (by decide) (up_ne e3 (by decide) (up_ne e1 (by decide) h18))))))))))))))
  have c_67 : S59 19 = .inl (g.2 0, 40, .inl f19) := (up_ne e59 (by decide) (up_ne e55 (by decide) ((o52 19 (by decide)).trans (up_ne e39 (by decide) (up_ne e34 (by decide) (up_ne e29 (by decide) (up_ne e25 (by decide) (up_ne e23 (by decide) (up_ne e20 (by decide) (up_ne e15 (by decide) ((o10 19 (by decide)).trans (up_ne e5 (by decide) (up_ne e3 (by decide) (up_ne e1 (by decide) h19))))))))))))))
  have c_68 : S59 89 = .inr (0, [.int 0, .ref (ad 90), .ref (ad 91), .ref (ad 92)]) := (up_ne e59 (by decide) (up_ne e55 (by decide) ((o52 89 (by decide)).trans (up_ne e39 (by decide) (up_ne e34 (by decide) (up_ne e29 (by decide) (up_ne e25 (by decide) (up_ne e23 (by decide) (up_ne e20 (by decide) (up_ne e15 (by decide) ((o10 89 (by decide)).trans (up_ne e5 (by decide) (up_ne e3 (by decide) (up_ne e1 (by decide) h89))))))))))))))
  have c_69 : S59 16 = .inr (0, [.int 0, .ref (ad 17), .ref (ad 18), .ref (ad 19)]) := (up_ne e59 (by decide) (up_ne e55 (by decide) ((o52 16 (by decide)).trans (up_ne e39 (by decide) (up_ne e34 (by decide) (up_ne e29 (by decide) (up_ne e25 (by decide) (up_ne e23 (by decide) (up_ne e20 (by decide) (up_ne e15 (by decide) ((o10 16 (by decide)).trans (up_ne e5 (by decide) (up_ne e3 (by decide) (up_ne e1 (by decide) h16))))))))))))))
  refine xcVv E hs hQ hml hl.1 89 (acCopy_75_2 l g ad hD S59 f90 f91 f92 f17 f18 f19 c_68 c_69 c_62 c_63 c_64 c_65 c_66 c_67) mX0_copyFrom q757 (by decide) c_68 rfl rfl ⟨by decide, by decide⟩ ⟨by decide, by decide⟩ (Nat.le_of_ble_eq_true rfl) rfl dX1_copyFrom_184 (fun S70 H locs hp70 hQ _ => ?_)
  obtain ⟨o70, v70_89, ⟨f70_90, v70_90⟩, ⟨f70_91, v70_91⟩, ⟨f70_92, v70_92⟩⟩ := hp70
  have c_71 : S70 75 = .inr (1, [.int 0, .int 0, .int 0, .ref (ad 76), .ref (ad 78), .ref (ad 79), .int 0, .int 0, .ref (ad 80), .ref (ad 81), .ref (ad 82), .ref (ad 83), .int 0, .ref (ad 88), .ref (ad 89)]) := ((o70 75 (by decide)).trans c_60)
  have c_72 : S70 76 = .inr (10, [.int 0, .int 0, .int 0, .int 0, .ref (ad 77)]) := ((o70 76 (by decide)).trans (up_ne e59 (by decide) (up_ne e55 (by decide) ((o52 76 (by decide)).trans (up_ne e39 (by decide) (up_ne e34 (by decide) (up_ne e29 (by decide) (up_ne e25 (by decide) (up_ne e23 (by decide) (up_ne e20 (by decide) (up_ne e15 (by decide) v10_76)))))))))))
  have c_73 : S70 77 = .inl (g.2 0, 36, .inl f10_77) := ((o70 77 (by decide)).trans (up_ne e59 (by decide) (up_ne e55 (by decide) ((o52 77 (by decide)).trans (up_ne e39 (by decide) (up_ne e34 (by decide) (up_ne e29 (by decide) (up_ne e25 (by decide) (up_ne e23 (by decide) (up_ne e20 (by decide) (up_ne e15 (by decide) v10_77)))))))))))
  have c_74 : S70 78 = .inl (g.2 0, 12, .inl (va_cpy f5 f78 (0 : Int32).toNatClampNeg (0 : Int32).toNatClampNeg (12 : Int32).toNatClampNeg)) := ((o70 78 (by decide)).trans (up_ne e59 (by decide) (up_ne e55 (by decide) ((o52 78 (by decide)).trans (up_ne e39 (by decide) (up_ne e34 (by decide) (up_ne e29 (by decide) (up_ne e25 (by decide) (up_ne e23 (by decide) (up_ne e20 (by decide) u15))))))))))
  have c_75 : S70 79 = .inl (g.2 0, 12, .inl (va_cpy f6 f79 (0 : Int32).toNatClampNeg (0 : Int32).toNatClampNeg (12 : Int32).toNatClampNeg)) := ((o70 79 (by decide)).trans (up_ne e59 (by decide) (up_ne e55 (by decide) ((o52 79 (by decide)).trans (up_ne e39 (by decide) (up_ne e34 (by decide) (up_ne e29 (by decide) (up_ne e25 (by decide) (up_ne e23 (by decide) u20)))))))))
  have c_76 : S70 80 = .inl (g.2 0, 8, .inl (va_cpy f7 f80 (0 : Int32).toNatClampNeg (0 : Int32).toNatClampNeg (8 : Int32).toNatClampNeg)) := ((o70 80 (by decide)).trans (up_ne e59 (by decide) (up_ne e55 (by decide) ((o52 80 (by decide)).trans (up_ne e39 (by decide) (up_ne e34 (by decide) u29))))))
  have c_77 : S70 81 = .inl (g.2 0, 8, .inl (va_cpy f8 f81 (0 : Int32).toNatClampNeg (0 : Int32).toNatClampNeg (8 : Int32).toNatClampNeg)) := ((o70 81 (by decide)).trans (up_ne e59 (by decide) (up_ne e55 (by decide) ((o52 81 (by decide)).trans (up_ne e39 (by decide) u34)))))
  have c_78 : S70 82 = .inl (g.2 0, 8, .inl (va_cpy f9 f82 (0 : Int32).toNatClampNeg (0 : Int32).toNatClampNeg (8 : Int32).toNatClampNeg)) := ((o70 82 (by decide)).trans (up_ne e59 (by decide) (up_ne e55 (by decide) ((o52 82 (by decide)).trans u39))))
  have c_79 : S70 83 = .inr (6, [.int 0, .ref (ad 84), .ref (ad 85), .ref (ad 86), .ref (ad 87)]) := ((o70 83 (by decide)).trans (up_ne e59 (by decide) (up_ne e55 (by decide) v52_83)))
  have c_80 : S70 84 = .inl (g.2 0, 6, .inl f52_84) := ((o70 84 (by decide)).trans (up_ne e59 (by decide) (up_ne e55 (by decide) v52_84)))
  have c_81 : S70 85 = .inl (g.2 0, 6, .inl f52_85) := ((o70 85 (by decide)).trans (up_ne e59 (by decide) (up_ne e55 (by decide) v52_85)))
  have c_82 : S70 86 = .inl (g.2 0, 6, .inl f52_86) := ((o70 86 (by decide)).trans (up_ne e59 (by decide) (up_ne e55 (by decide) v52_86)))
  have c_83 : S70 87 = .inl (g.2 0, 6, .inl f52_87) := ((o70 87 (by decide)).trans (up_ne e59 (by decide) (up_ne e55 (by decide) v52_87)))
  have c_84 : S70 88 = .inl (g.2 0, 3, .inl (va_cpy f15 f88 (0 : Int32).toNatClampNeg (0 : Int32).toNatClampNeg (3 : Int32).toNatClampNeg)) := ((o70 88 (by decide)).trans u59)
  exact xrv E hr hlk hQ (⟨fun j hj => ((o70 j (fun h => hj ((by decide : ∀ x ∈ ([89, 90, 91, 92] : List Nat), x ∈ ([75, 76, 77, 78, 79, 80, 81, 82, 83, 84, 85, 86, 87, 88, 89, 90, 91, 92] : List Nat)) j h))).trans (up_ne e59 (fun h => hj (by subst h; decide)) (up_ne e55 (fun h => hj (by subst h; decide)) ((o52 j (fun h => hj ((by decide : ∀ x ∈ ([83, 84, 85, 86, 87] : List Nat), x ∈ ([75, 76, 77, 78, 79, 80, 81, 82, 83, 84, 85, 86, 87, 88, 89, 90, 91, 92] : List Nat)) j h))).trans (up_ne e39 (fun h => hj (by subst h; decide)) (up_ne e34 (fun h => hj (by subst h; decide)) (up_ne e29 (fun h => hj (by subst h; decide)) (up_ne e25 (fun h => hj (by subst h; decide)) (up_ne e23 (fun h => hj (by subst h; decide)) (up_ne e20 (fun h => hj (by subst h; decide)) (up_ne e15 (fun h => hj (by subst h; decide)) ((o10 j (fun h => hj ((by decide : ∀ x ∈ ([76, 77] : List Nat), x ∈ ([75, 76, 77, 78, 79, 80, 81, 82, 83, 84, 85, 86, 87, 88, 89, 90, 91, 92] : List Nat)) j h))).trans (up_ne e5 (fun h => hj (by subst h; decide)) (up_ne e3 (fun h => hj (by subst h; decide)) (up_ne e1 (fun h => hj (by subst h; decide)) rfl))))))))))))))), c_71, c_72, ⟨_, c_73⟩, ⟨_, c_74⟩, ⟨_, c_75⟩, ⟨_, c_76⟩, ⟨_, c_77⟩, ⟨_, c_78⟩, c_79, ⟨_, c_80⟩, ⟨_, c_81⟩, ⟨_, c_82⟩, ⟨_, c_83⟩, ⟨_, c_84⟩, v70_89, ⟨_, v70_90⟩, ⟨_, v70_91⟩, ⟨_, v70_92⟩⟩) dX1_copyFrom_187
set_option maxHeartbeats 4000000 in
set_option maxRecDepth 100000 in
theorem rbCopy_2_20 (l : Launch) (g : GG) (ad : Nat → Nat) (hD : Dj ad 122) (S : SS) (f11 : Nat → Int32) (f12 : Nat → Int32) (f13 : Nat → Int32) (f14 : Nat → Int32) (f29 : Nat → Int32) (f30 : Nat → Int32) (f31 : Nat → Int32) (f32 : Nat → Int32) (h10 : S 10 = .inr (6, [.int 0, .ref (ad 11), .ref (ad 12), .ref (ad 13), .ref (ad 14)])) (h28 : S 28 = .inr (6, [.int 0, .ref (ad 29), .ref (ad 30), .ref (ad 31), .ref (ad 32)])) (h11 : S 11 = .inl (g.2 0, 6, .inl f11)) (h12 : S 12 = .inl (g.2 0, 6, .inl f12)) (h13 : S 13 = .inl (g.2 0, 6, .inl f13)) (h14 : S 14 = .inl (g.2 0, 6, .inl f14)) (h29 : S 29 = .inl (g.2 0, 6, .inl f29)) (h30 : S 30 = .inl (g.2 0, 6, .inl f30)) (h31 : S 31 = .inl (g.2 0, 6, .inl f31)) (h32 : S 32 = .inl (g.2 0, 6, .inl f32)) : Met l yX6_copyFrom (wG (.code yX6_copyFrom cX6_copyFrom 2 none)) (Rm 1) (XPre g ad 122 S [.ref (ad 10), .ref (ad 28)]) (va_Qv (fun S' => (∀ j, j ∉ ([10, 11, 12, 13, 14] : List Nat) → S' j = S j) ∧ S' 10 = .inr (6, [.int 0, .ref (ad 11), .ref (ad 12), .ref (ad 13), .ref (ad 14)]) ∧ (∃ f : Nat → Int32, S' 11 = .inl (g.2 0, 6, .inl f)) ∧ (∃ f : Nat → Int32, S' 12 = .inl (g.2 0, 6, .inl f)) ∧ (∃ f : Nat → Int32, S' 13 = .inl (g.2 0, 6, .inl f)) ∧ (∃ f : Nat → Int32, S' 14 = .inl (g.2 0, 6, .inl f))) (QB g ad 122) (FA ad 122)) 0 0 (FA ad 122) := by
  refine xmet cX6_copyFrom "EbbWreck$RuleBook" (by decide) rfl (Nat.le_of_ble_eq_true rfl) (fun p e s m below meth c E hr hlk hml hQ ls hl => ?_)
  have hx := E.1
  have hb := E.2.1
  have hs : Sp ad 122 (FA ad 122) := Sp.fa hD
  have hl : lv_has ls 2 [(0, .ref (ad 10)), (1, .ref (ad 28))] := hl
  refine lv_aload_n hx hb dX6_copyFrom_0 rfl (lv_at hl 0 rfl) ?_
  refine lv_aload_n hx hb dX6_copyFrom_1 rfl (lv_at hl 1 rfl) ?_
  refine xget E hQ 28 (by decide) h28 rfl 0 (by decide) q186 rfl dX6_copyFrom_2 ?_
  refine xputi E hs hQ 10 (by decide) h10 rfl 0 (by decide) q186 rfl rfl (Nat.le_of_ble_eq_true rfl) dX6_copyFrom_5 (fun H locs S1 e1 hQ => ?_)
  have u1 : S1 10 = .inr (6, [.int 0, .ref (ad 11), .ref (ad 12), .ref (ad 13), .ref (ad 14)]) := up_at e1 rfl
  refine lv_aload_n hx hb dX6_copyFrom_8 rfl (lv_at hl 1 rfl) ?_
  have c_2 : S1 28 = .inr (6, [.int 0, .ref (ad 29), .ref (ad 30), .ref (ad 31), .ref (ad 32)]) := (up_ne e1 (by decide) h28)
  refine xget E hQ 28 (by decide) c_2 rfl 1 (by decide) q189 rfl dX6_copyFrom_9 ?_
  refine lv_iconst (v := 0) hx hb dX6_copyFrom_12 (by decide) ?_
  refine lv_aload_n hx hb dX6_copyFrom_13 rfl (lv_at hl 0 rfl) ?_
  refine xget E hQ 10 (by decide) u1 rfl 1 (by decide) q189 rfl dX6_copyFrom_14 ?_
  refine lv_iconst (v := 0) hx hb dX6_copyFrom_17 (by decide) ?_
  refine lv_bipush (v := 6) hx hb dX6_copyFrom_18 (by decide) ?_
  have c_3 : S1 29 = .inl (g.2 0, 6, .inl f29) := (up_ne e1 (by decide) h29)
  have c_4 : S1 11 = .inl (g.2 0, 6, .inl f11) := (up_ne e1 (by decide) h11)
  refine xcopyi E hs hQ hml hl.1 29 (by decide) 11 (by decide) c_3 c_4 q756 (by decide) (by decide) (by decide) (Nat.le_of_ble_eq_true rfl) (Nat.le_of_ble_eq_true rfl) (Nat.le_of_ble_eq_true rfl) (Nat.le_of_ble_eq_true rfl) dX6_copyFrom_20 (fun H locs S5 e5 hQ => ?_)
  have u5 : S5 11 = .inl (g.2 0, 6, .inl (va_cpy f29 f11 (0 : Int32).toNatClampNeg (0 : Int32).toNatClampNeg (6 : Int32).toNatClampNeg)) := up_at e5 rfl
  refine lv_aload_n hx hb dX6_copyFrom_23 rfl (lv_at hl 1 rfl) ?_
  have c_6 : S5 28 = .inr (6, [.int 0, .ref (ad 29), .ref (ad 30), .ref (ad 31), .ref (ad 32)]) := (up_ne e5 (by decide) c_2)
  refine xget E hQ 28 (by decide) c_6 rfl 2 (by decide) q191 rfl dX6_copyFrom_24 ?_
  refine lv_iconst (v := 0) hx hb dX6_copyFrom_27 (by decide) ?_
  refine lv_aload_n hx hb dX6_copyFrom_28 rfl (lv_at hl 0 rfl) ?_
  have c_7 : S5 10 = .inr (6, [.int 0, .ref (ad 11), .ref (ad 12), .ref (ad 13), .ref (ad 14)]) := (up_ne e5 (by decide) u1)
  refine xget E hQ 10 (by decide) c_7 rfl 2 (by decide) q191 rfl dX6_copyFrom_29 ?_
  refine lv_iconst (v := 0) hx hb dX6_copyFrom_32 (by decide) ?_
  refine lv_bipush (v := 6) hx hb dX6_copyFrom_33 (by decide) ?_
  have c_8 : S5 30 = .inl (g.2 0, 6, .inl f30) := (up_ne e5 (by decide) (up_ne e1 (by decide) h30))
  have c_9 : S5 12 = .inl (g.2 0, 6, .inl f12) := (up_ne e5 (by decide) (up_ne e1 (by decide) h12))
  refine xcopyi E hs hQ hml hl.1 30 (by decide) 12 (by decide) c_8 c_9 q756 (by decide) (by decide) (by decide) (Nat.le_of_ble_eq_true rfl) (Nat.le_of_ble_eq_true rfl) (Nat.le_of_ble_eq_true rfl) (Nat.le_of_ble_eq_true rfl) dX6_copyFrom_35 (fun H locs S10 e10 hQ => ?_)
  have u10 : S10 12 = .inl (g.2 0, 6, .inl (va_cpy f30 f12 (0 : Int32).toNatClampNeg (0 : Int32).toNatClampNeg (6 : Int32).toNatClampNeg)) := up_at e10 rfl
  refine lv_aload_n hx hb dX6_copyFrom_38 rfl (lv_at hl 1 rfl) ?_
  have c_11 : S10 28 = .inr (6, [.int 0, .ref (ad 29), .ref (ad 30), .ref (ad 31), .ref (ad 32)]) := (up_ne e10 (by decide) c_6)
  refine xget E hQ 28 (by decide) c_11 rfl 3 (by decide) q193 rfl dX6_copyFrom_39 ?_
  refine lv_iconst (v := 0) hx hb dX6_copyFrom_42 (by decide) ?_
  refine lv_aload_n hx hb dX6_copyFrom_43 rfl (lv_at hl 0 rfl) ?_
  have c_12 : S10 10 = .inr (6, [.int 0, .ref (ad 11), .ref (ad 12), .ref (ad 13), .ref (ad 14)]) := (up_ne e10 (by decide) c_7)
  refine xget E hQ 10 (by decide) c_12 rfl 3 (by decide) q193 rfl dX6_copyFrom_44 ?_
  refine lv_iconst (v := 0) hx hb dX6_copyFrom_47 (by decide) ?_
  refine lv_bipush (v := 6) hx hb dX6_copyFrom_48 (by decide) ?_
  have c_13 : S10 31 = .inl (g.2 0, 6, .inl f31) := (up_ne e10 (by decide) (up_ne e5 (by decide) (up_ne e1 (by decide) h31)))
  have c_14 : S10 13 = .inl (g.2 0, 6, .inl f13) := (up_ne e10 (by decide) (up_ne e5 (by decide) (up_ne e1 (by decide) h13)))
  refine xcopyi E hs hQ hml hl.1 31 (by decide) 13 (by decide) c_13 c_14 q756 (by decide) (by decide) (by decide) (Nat.le_of_ble_eq_true rfl) (Nat.le_of_ble_eq_true rfl) (Nat.le_of_ble_eq_true rfl) (Nat.le_of_ble_eq_true rfl) dX6_copyFrom_50 (fun H locs S15 e15 hQ => ?_)
  have u15 : S15 13 = .inl (g.2 0, 6, .inl (va_cpy f31 f13 (0 : Int32).toNatClampNeg (0 : Int32).toNatClampNeg (6 : Int32).toNatClampNeg)) := up_at e15 rfl
  refine lv_aload_n hx hb dX6_copyFrom_53 rfl (lv_at hl 1 rfl) ?_
  have c_16 : S15 28 = .inr (6, [.int 0, .ref (ad 29), .ref (ad 30), .ref (ad 31), .ref (ad 32)]) := (up_ne e15 (by decide) c_11)
  refine xget E hQ 28 (by decide) c_16 rfl 4 (by decide) q195 rfl dX6_copyFrom_54 ?_
  refine lv_iconst (v := 0) hx hb dX6_copyFrom_57 (by decide) ?_
  refine lv_aload_n hx hb dX6_copyFrom_58 rfl (lv_at hl 0 rfl) ?_
  have c_17 : S15 10 = .inr (6, [.int 0, .ref (ad 11), .ref (ad 12), .ref (ad 13), .ref (ad 14)]) := (up_ne e15 (by decide) c_12)
  refine xget E hQ 10 (by decide) c_17 rfl 4 (by decide) q195 rfl dX6_copyFrom_59 ?_
  refine lv_iconst (v := 0) hx hb dX6_copyFrom_62 (by decide) ?_
  refine lv_bipush (v := 6) hx hb dX6_copyFrom_63 (by decide) ?_
  have c_18 : S15 32 = .inl (g.2 0, 6, .inl f32) := (up_ne e15 (by decide) (up_ne e10 (by decide) (up_ne e5 (by decide) (up_ne e1 (by decide) h32))))
  have c_19 : S15 14 = .inl (g.2 0, 6, .inl f14) := (up_ne e15 (by decide) (up_ne e10 (by decide) (up_ne e5 (by decide) (up_ne e1 (by decide) h14))))
  refine xcopyi E hs hQ hml hl.1 32 (by decide) 14 (by decide) c_18 c_19 q756 (by decide) (by decide) (by decide) (Nat.le_of_ble_eq_true rfl) (Nat.le_of_ble_eq_true rfl) (Nat.le_of_ble_eq_true rfl) (Nat.le_of_ble_eq_true rfl) dX6_copyFrom_65 (fun H locs S20 e20 hQ => ?_)
  have u20 : S20 14 = .inl (g.2 0, 6, .inl (va_cpy f32 f14 (0 : Int32).toNatClampNeg (0 : Int32).toNatClampNeg (6 : Int32).toNatClampNeg)) := up_at e20 rfl
  have c_21 : S20 10 = .inr (6, [.int 0, .ref (ad 11), .ref (ad 12), .ref (ad 13), .ref (ad 14)]) := (up_ne e20 (by decide) c_17)
  have c_22 : S20 11 = .inl (g.2 0, 6, .inl (va_cpy f29 f11 (0 : Int32).toNatClampNeg (0 : Int32).toNatClampNeg (6 : Int32).toNatClampNeg)) := (up_ne e20 (by decide) (up_ne e15 (by decide) (up_ne e10 (by decide) u5)))
  have c_23 : S20 12 = .inl (g.2 0, 6, .inl (va_cpy f30 f12 (0 : Int32).toNatClampNeg (0 : Int32).toNatClampNeg (6 : Int32).toNatClampNeg)) := (up_ne e20 (by decide) (up_ne e15 (by decide) u10))
  have c_24 : S20 13 = .inl (g.2 0, 6, .inl (va_cpy f31 f13 (0 : Int32).toNatClampNeg (0 : Int32).toNatClampNeg (6 : Int32).toNatClampNeg)) := (up_ne e20 (by decide) u15)
  exact xrv E hr hlk hQ (⟨fun j hj => (up_ne e20 (fun h => hj (by subst h; decide)) (up_ne e15 (fun h => hj (by subst h; decide)) (up_ne e10 (fun h => hj (by subst h; decide)) (up_ne e5 (fun h => hj (by subst h; decide)) (up_ne e1 (fun h => hj (by subst h; decide)) rfl))))), c_21, ⟨_, c_22⟩, ⟨_, c_23⟩, ⟨_, c_24⟩, ⟨_, u20⟩⟩) dX6_copyFrom_68
set_option maxHeartbeats 4000000 in
set_option maxRecDepth 100000 in
theorem acCopy_2_20 (l : Launch) (g : GG) (ad : Nat → Nat) (hD : Dj ad 122) (S : SS) (f17 : Nat → Int32) (f18 : Nat → Int32) (f19 : Nat → Int32) (f35 : Nat → Int32) (f36 : Nat → Int32) (f37 : Nat → Int32) (h16 : S 16 = .inr (0, [.int 0, .ref (ad 17), .ref (ad 18), .ref (ad 19)])) (h34 : S 34 = .inr (0, [.int 0, .ref (ad 35), .ref (ad 36), .ref (ad 37)])) (h17 : S 17 = .inl (g.2 0, 40, .inl f17)) (h18 : S 18 = .inl (g.2 0, 40, .inl f18)) (h19 : S 19 = .inl (g.2 0, 40, .inl f19)) (h35 : S 35 = .inl (g.2 0, 40, .inl f35)) (h36 : S 36 = .inl (g.2 0, 40, .inl f36)) (h37 : S 37 = .inl (g.2 0, 40, .inl f37)) : Met l yX0_copyFrom (wG (.code yX0_copyFrom cX0_copyFrom 2 none)) (Rm 1) (XPre g ad 122 S [.ref (ad 16), .ref (ad 34)]) (va_Qv (fun S' => (∀ j, j ∉ ([16, 17, 18, 19] : List Nat) → S' j = S j) ∧ S' 16 = .inr (0, [.int 0, .ref (ad 17), .ref (ad 18), .ref (ad 19)]) ∧ (∃ f : Nat → Int32, S' 17 = .inl (g.2 0, 40, .inl f)) ∧ (∃ f : Nat → Int32, S' 18 = .inl (g.2 0, 40, .inl f)) ∧ (∃ f : Nat → Int32, S' 19 = .inl (g.2 0, 40, .inl f))) (QB g ad 122) (FA ad 122)) 0 0 (FA ad 122) := by
  refine xmet cX0_copyFrom "EbbWreck$Acts" (by decide) rfl (Nat.le_of_ble_eq_true rfl) (fun p e s m below meth c E hr hlk hml hQ ls hl => ?_)
  have hx := E.1
  have hb := E.2.1
  have hs : Sp ad 122 (FA ad 122) := Sp.fa hD
  have hl : lv_has ls 2 [(0, .ref (ad 16)), (1, .ref (ad 34))] := hl
  refine lv_aload_n hx hb dX0_copyFrom_0 rfl (lv_at hl 0 rfl) ?_
  refine lv_aload_n hx hb dX0_copyFrom_1 rfl (lv_at hl 1 rfl) ?_
  refine xget E hQ 34 (by decide) h34 rfl 0 (by decide) q215 rfl dX0_copyFrom_2 ?_
  refine xputi E hs hQ 16 (by decide) h16 rfl 0 (by decide) q215 rfl rfl (Nat.le_of_ble_eq_true rfl) dX0_copyFrom_5 (fun H locs S1 e1 hQ => ?_)
  have u1 : S1 16 = .inr (0, [.int 0, .ref (ad 17), .ref (ad 18), .ref (ad 19)]) := up_at e1 rfl
  refine lv_aload_n hx hb dX0_copyFrom_8 rfl (lv_at hl 1 rfl) ?_
  have c_2 : S1 34 = .inr (0, [.int 0, .ref (ad 35), .ref (ad 36), .ref (ad 37)]) := (up_ne e1 (by decide) h34)
  refine xget E hQ 34 (by decide) c_2 rfl 1 (by decide) q219 rfl dX0_copyFrom_9 ?_
  refine lv_iconst (v := 0) hx hb dX0_copyFrom_12 (by decide) ?_
  refine lv_aload_n hx hb dX0_copyFrom_13 rfl (lv_at hl 0 rfl) ?_
  refine xget E hQ 16 (by decide) u1 rfl 1 (by decide) q219 rfl dX0_copyFrom_14 ?_
  refine lv_iconst (v := 0) hx hb dX0_copyFrom_17 (by decide) ?_
  refine lv_bipush (v := 40) hx hb dX0_copyFrom_18 (by decide) ?_
  have c_3 : S1 35 = .inl (g.2 0, 40, .inl f35) := (up_ne e1 (by decide) h35)
  have c_4 : S1 17 = .inl (g.2 0, 40, .inl f17) := (up_ne e1 (by decide) h17)
  refine xcopyi E hs hQ hml hl.1 35 (by decide) 17 (by decide) c_3 c_4 q761 (by decide) (by decide) (by decide) (Nat.le_of_ble_eq_true rfl) (Nat.le_of_ble_eq_true rfl) (Nat.le_of_ble_eq_true rfl) (Nat.le_of_ble_eq_true rfl) dX0_copyFrom_20 (fun H locs S5 e5 hQ => ?_)
  have u5 : S5 17 = .inl (g.2 0, 40, .inl (va_cpy f35 f17 (0 : Int32).toNatClampNeg (0 : Int32).toNatClampNeg (40 : Int32).toNatClampNeg)) := up_at e5 rfl
  refine lv_aload_n hx hb dX0_copyFrom_23 rfl (lv_at hl 1 rfl) ?_
  have c_6 : S5 34 = .inr (0, [.int 0, .ref (ad 35), .ref (ad 36), .ref (ad 37)]) := (up_ne e5 (by decide) c_2)
  refine xget E hQ 34 (by decide) c_6 rfl 2 (by decide) q222 rfl dX0_copyFrom_24 ?_
  refine lv_iconst (v := 0) hx hb dX0_copyFrom_27 (by decide) ?_
  refine lv_aload_n hx hb dX0_copyFrom_28 rfl (lv_at hl 0 rfl) ?_
  have c_7 : S5 16 = .inr (0, [.int 0, .ref (ad 17), .ref (ad 18), .ref (ad 19)]) := (up_ne e5 (by decide) u1)
  refine xget E hQ 16 (by decide) c_7 rfl 2 (by decide) q222 rfl dX0_copyFrom_29 ?_
  refine lv_iconst (v := 0) hx hb dX0_copyFrom_32 (by decide) ?_
  refine lv_bipush (v := 40) hx hb dX0_copyFrom_33 (by decide) ?_
  have c_8 : S5 36 = .inl (g.2 0, 40, .inl f36) := (up_ne e5 (by decide) (up_ne e1 (by decide) h36))
  have c_9 : S5 18 = .inl (g.2 0, 40, .inl f18) := (up_ne e5 (by decide) (up_ne e1 (by decide) h18))
  refine xcopyi E hs hQ hml hl.1 36 (by decide) 18 (by decide) c_8 c_9 q761 (by decide) (by decide) (by decide) (Nat.le_of_ble_eq_true rfl) (Nat.le_of_ble_eq_true rfl) (Nat.le_of_ble_eq_true rfl) (Nat.le_of_ble_eq_true rfl) dX0_copyFrom_35 (fun H locs S10 e10 hQ => ?_)
  have u10 : S10 18 = .inl (g.2 0, 40, .inl (va_cpy f36 f18 (0 : Int32).toNatClampNeg (0 : Int32).toNatClampNeg (40 : Int32).toNatClampNeg)) := up_at e10 rfl
  refine lv_aload_n hx hb dX0_copyFrom_38 rfl (lv_at hl 1 rfl) ?_
  have c_11 : S10 34 = .inr (0, [.int 0, .ref (ad 35), .ref (ad 36), .ref (ad 37)]) := (up_ne e10 (by decide) c_6)
  refine xget E hQ 34 (by decide) c_11 rfl 3 (by decide) q224 rfl dX0_copyFrom_39 ?_
  refine lv_iconst (v := 0) hx hb dX0_copyFrom_42 (by decide) ?_
  refine lv_aload_n hx hb dX0_copyFrom_43 rfl (lv_at hl 0 rfl) ?_
  have c_12 : S10 16 = .inr (0, [.int 0, .ref (ad 17), .ref (ad 18), .ref (ad 19)]) := (up_ne e10 (by decide) c_7)
  refine xget E hQ 16 (by decide) c_12 rfl 3 (by decide) q224 rfl dX0_copyFrom_44 ?_
  refine lv_iconst (v := 0) hx hb dX0_copyFrom_47 (by decide) ?_
  refine lv_bipush (v := 40) hx hb dX0_copyFrom_48 (by decide) ?_
  have c_13 : S10 37 = .inl (g.2 0, 40, .inl f37) := (up_ne e10 (by decide) (up_ne e5 (by decide) (up_ne e1 (by decide) h37)))
  have c_14 : S10 19 = .inl (g.2 0, 40, .inl f19) := (up_ne e10 (by decide) (up_ne e5 (by decide) (up_ne e1 (by decide) h19)))
  refine xcopyi E hs hQ hml hl.1 37 (by decide) 19 (by decide) c_13 c_14 q761 (by decide) (by decide) (by decide) (Nat.le_of_ble_eq_true rfl) (Nat.le_of_ble_eq_true rfl) (Nat.le_of_ble_eq_true rfl) (Nat.le_of_ble_eq_true rfl) dX0_copyFrom_50 (fun H locs S15 e15 hQ => ?_)
  have u15 : S15 19 = .inl (g.2 0, 40, .inl (va_cpy f37 f19 (0 : Int32).toNatClampNeg (0 : Int32).toNatClampNeg (40 : Int32).toNatClampNeg)) := up_at e15 rfl
  have c_16 : S15 16 = .inr (0, [.int 0, .ref (ad 17), .ref (ad 18), .ref (ad 19)]) := (up_ne e15 (by decide) c_12)
  have c_17 : S15 17 = .inl (g.2 0, 40, .inl (va_cpy f35 f17 (0 : Int32).toNatClampNeg (0 : Int32).toNatClampNeg (40 : Int32).toNatClampNeg)) := (up_ne e15 (by decide) (up_ne e10 (by decide) u5))
  have c_18 : S15 18 = .inl (g.2 0, 40, .inl (va_cpy f36 f18 (0 : Int32).toNatClampNeg (0 : Int32).toNatClampNeg (40 : Int32).toNatClampNeg)) := (up_ne e15 (by decide) u10)
  exact xrv E hr hlk hQ (⟨fun j hj => (up_ne e15 (fun h => hj (by subst h; decide)) (up_ne e10 (fun h => hj (by subst h; decide)) (up_ne e5 (fun h => hj (by subst h; decide)) (up_ne e1 (fun h => hj (by subst h; decide)) rfl)))), c_16, ⟨_, c_17⟩, ⟨_, c_18⟩, ⟨_, u15⟩⟩) dX0_copyFrom_53
set_option maxHeartbeats 4000000 in
set_option maxRecDepth 100000 in
theorem tell_3 (l : Launch) (g : GG) (ad : Nat → Nat) (hD : Dj ad 122) (S : SS) (f4 : Nat → Int32) (h3 : S 3 = .inr (10, [.int 0, .int 0, .int 0, .int 0, .ref (ad 4)])) (h4 : S 4 = .inl (g.2 0, 36, .inl f4)) : Met l yX10_tell (wG (.code yX10_tell cX10_tell 5 none)) (Rm 1) (XPre g ad 122 S [.ref (ad 3), .int 0, .int 0, .int 0]) (va_Qv (fun S' => (∀ j, j ∉ ([3, 4] : List Nat) → S' j = S j) ∧ S' 3 = .inr (10, [.int 0, .int 0, .int 0, .int 0, .ref (ad 4)]) ∧ (∃ f : Nat → Int32, S' 4 = .inl (g.2 0, 36, .inl f))) (QB g ad 122) (FA ad 122)) 0 0 (FA ad 122) := by
  refine xmet cX10_tell "EbbWreck$Tide" (by decide) rfl (Nat.le_of_ble_eq_true rfl) (fun p e s m below meth c E hr hlk hml hQ ls hl => ?_)
  have hx := E.1
  have hb := E.2.1
  have hs : Sp ad 122 (FA ad 122) := Sp.fa hD
  have hl : lv_has ls 5 [(0, .ref (ad 3)), (1, .int 0), (2, .int 0), (3, .int 0)] := hl
  refine lv_aload_n hx hb dX10_tell_0 rfl (lv_at hl 0 rfl) ?_
  refine lv_iload_n hx hb dX10_tell_1 rfl (lv_at hl 1 rfl) ?_
  refine xputi E hs hQ 3 (by decide) h3 rfl 0 (by decide) q155 rfl rfl (Nat.le_of_ble_eq_true rfl) dX10_tell_2 (fun H locs S1 e1 hQ => ?_)
  have u1 : S1 3 = .inr (10, [.int 0, .int 0, .int 0, .int 0, .ref (ad 4)]) := up_at e1 rfl
  refine lv_aload_n hx hb dX10_tell_5 rfl (lv_at hl 0 rfl) ?_
  refine lv_iload_n hx hb dX10_tell_6 rfl (lv_at hl 2 rfl) ?_
  refine xputi E hs hQ 3 (by decide) u1 rfl 1 (by decide) q158 rfl rfl (Nat.le_of_ble_eq_true rfl) dX10_tell_7 (fun H locs S2 e2 hQ => ?_)
  have u2 : S2 3 = .inr (10, [.int 0, .int 0, .int 0, .int 0, .ref (ad 4)]) := up_at e2 rfl
  refine lv_aload_n hx hb dX10_tell_10 rfl (lv_at hl 0 rfl) ?_
  refine lv_iload_n hx hb dX10_tell_11 rfl (lv_at hl 3 rfl) ?_
  refine xputi E hs hQ 3 (by decide) u2 rfl 2 (by decide) q161 rfl rfl (Nat.le_of_ble_eq_true rfl) dX10_tell_12 (fun H locs S3 e3 hQ => ?_)
  have u3 : S3 3 = .inr (10, [.int 0, .int 0, .int 0, .int 0, .ref (ad 4)]) := up_at e3 rfl
  refine lv_aload_n hx hb dX10_tell_15 rfl (lv_at hl 0 rfl) ?_
  refine lv_aload_n hx hb dX10_tell_16 rfl (lv_at hl 0 rfl) ?_
  refine xget E hQ 3 (by decide) u3 rfl 0 (by decide) q155 rfl dX10_tell_17 ?_
  refine lv_aload_n hx hb dX10_tell_20 rfl (lv_at hl 0 rfl) ?_
  refine xget E hQ 3 (by decide) u3 rfl 1 (by decide) q158 rfl dX10_tell_21 ?_
  refine lv_iadd hx hb dX10_tell_24 ?_
  refine sb_at (P := fun z => W _ _ _ _ _ _ _ _ _ _ _ _ _ _ _ (F0 _ _ _ (.int z :: _))) (show (0 : Int32) + 0 = 0 by decide) ?_
  refine lv_aload_n hx hb dX10_tell_25 rfl (lv_at hl 0 rfl) ?_
  refine xget E hQ 3 (by decide) u3 rfl 2 (by decide) q161 rfl dX10_tell_26 ?_
  refine lv_iadd hx hb dX10_tell_29 ?_
  refine sb_at (P := fun z => W _ _ _ _ _ _ _ _ _ _ _ _ _ _ _ (F0 _ _ _ (.int z :: _))) (show (0 : Int32) + 0 = 0 by decide) ?_
  refine lv_aload_n hx hb dX10_tell_30 rfl (lv_at hl 0 rfl) ?_
  refine xget E hQ 3 (by decide) u3 rfl 1 (by decide) q158 rfl dX10_tell_31 ?_
  refine lv_iadd hx hb dX10_tell_34 ?_
  refine sb_at (P := fun z => W _ _ _ _ _ _ _ _ _ _ _ _ _ _ _ (F0 _ _ _ (.int z :: _))) (show (0 : Int32) + 0 = 0 by decide) ?_
  refine xputi E hs hQ 3 (by decide) u3 rfl 3 (by decide) q165 rfl rfl (Nat.le_of_ble_eq_true rfl) dX10_tell_35 (fun H locs S4 e4 hQ => ?_)
  have u4 : S4 3 = .inr (10, [.int 0, .int 0, .int 0, .int 0, .ref (ad 4)]) := up_at e4 rfl
  refine lv_aload_n hx hb dX10_tell_38 rfl (lv_at hl 0 rfl) ?_
  refine xget E hQ 3 (by decide) u4 rfl 4 (by decide) q166 rfl dX10_tell_39 ?_
  refine lv_iconst (v := 1) hx hb dX10_tell_42 (by decide) ?_
  have c_5 : S4 4 = .inl (g.2 0, 36, .inl f4) := (up_ne e4 (by decide) (up_ne e3 (by decide) (up_ne e2 (by decide) (up_ne e1 (by decide) h4))))
  refine xcSv E hs hQ hml hl.1 (uFillI l g ad _ hD S4 4 (by decide) 36 (by decide) f4 1 c_5) mJ7_fill_53178 q596 rfl ⟨by decide, by decide⟩ ⟨by decide, by decide⟩ (Nat.le_of_ble_eq_true rfl) rfl dX10_tell_43 (fun S6 H locs hp6 hQ => ?_)
  have e6 := hp6
  have u6 : S6 4 = .inl (g.2 0, 36, .inl (fillF 1 36 f4)) := up_at e6 rfl
  refine lv_iconst (v := 0) hx hb dX10_tell_46 (by decide) ?_
  refine lv_istore (lv' := [(4, .int 0), (0, .ref (ad 3)), (1, .int 0), (2, .int 0), (3, .int 0)]) hx hb dX10_tell_47 hl (by decide) rfl (fun ls hl => ?_)
  refine lv_iload hx hb dX10_tell_49 (lv_at hl 0 rfl) ?_
  refine lv_aload_n hx hb dX10_tell_51 rfl (lv_at hl 1 rfl) ?_
  have c_7 : S6 3 = .inr (10, [.int 0, .int 0, .int 0, .int 0, .ref (ad 4)]) := (up_ne e6 (by decide) u4)
  refine xget E hQ 3 (by decide) c_7 rfl 0 (by decide) q155 rfl dX10_tell_52 ?_
  refine lv_icmp_ge (tgt := 79) hx hb dX10_tell_55 (by decide) (fun k_8 => ?_) (fun k_8 => absurd k_8 (by decide))
  refine lv_aload_n hx hb dX10_tell_79 rfl (lv_at hl 1 rfl) ?_
  refine xget E hQ 3 (by decide) c_7 rfl 0 (by decide) q155 rfl dX10_tell_80 ?_
  refine lv_aload_n hx hb dX10_tell_83 rfl (lv_at hl 1 rfl) ?_
  refine xget E hQ 3 (by decide) c_7 rfl 1 (by decide) q158 rfl dX10_tell_84 ?_
  refine lv_iadd hx hb dX10_tell_87 ?_
  refine sb_at (P := fun z => W _ _ _ _ _ _ _ _ _ _ _ _ _ _ _ (F0 _ _ _ (.int z :: _))) (show (0 : Int32) + 0 = 0 by decide) ?_
  refine lv_istore (lv' := [(4, .int 0), (0, .ref (ad 3)), (1, .int 0), (2, .int 0), (3, .int 0)]) hx hb dX10_tell_88 hl (by decide) rfl (fun ls hl => ?_)
  refine lv_iload hx hb dX10_tell_90 (lv_at hl 0 rfl) ?_
  refine lv_aload_n hx hb dX10_tell_92 rfl (lv_at hl 1 rfl) ?_
  refine xget E hQ 3 (by decide) c_7 rfl 3 (by decide) q165 rfl dX10_tell_93 ?_
  refine lv_aload_n hx hb dX10_tell_96 rfl (lv_at hl 1 rfl) ?_
  refine xget E hQ 3 (by decide) c_7 rfl 1 (by decide) q158 rfl dX10_tell_97 ?_
  refine lv_isub hx hb dX10_tell_100 ?_
  refine sb_at (P := fun z => W _ _ _ _ _ _ _ _ _ _ _ _ _ _ _ (F0 _ _ _ (.int z :: _))) (show (0 : Int32) - 0 = 0 by decide) ?_
  refine lv_icmp_ge (tgt := 125) hx hb dX10_tell_101 (by decide) (fun k_9 => ?_) (fun k_9 => absurd k_9 (by decide))
  exact xrv E hr hlk hQ (⟨fun j hj => (up_ne e6 (fun h => hj (by subst h; decide)) (up_ne e4 (fun h => hj (by subst h; decide)) (up_ne e3 (fun h => hj (by subst h; decide)) (up_ne e2 (fun h => hj (by subst h; decide)) (up_ne e1 (fun h => hj (by subst h; decide)) rfl))))), c_7, ⟨_, u6⟩⟩) dX10_tell_125
set_option maxHeartbeats 4000000 in
set_option maxRecDepth 100000 in
theorem cCopy_2_20 (l : Launch) (g : GG) (ad : Nat → Nat) (hD : Dj ad 122) (S : SS) (f4 : Nat → Int32) (f5 : Nat → Int32) (f6 : Nat → Int32) (f7 : Nat → Int32) (f8 : Nat → Int32) (f9 : Nat → Int32) (f15 : Nat → Int32) (f23 : Nat → Int32) (f24 : Nat → Int32) (f25 : Nat → Int32) (f26 : Nat → Int32) (f27 : Nat → Int32) (f33 : Nat → Int32) (f11 : Nat → Int32) (f12 : Nat → Int32) (f13 : Nat → Int32) (f14 : Nat → Int32) (f29 : Nat → Int32) (f30 : Nat → Int32) (f31 : Nat → Int32) (f32 : Nat → Int32) (f17 : Nat → Int32) (f18 : Nat → Int32) (f19 : Nat → Int32) (f35 : Nat → Int32) (f36 : Nat → Int32) (f37 : Nat → Int32) (h2 : S 2 = .inr (1, [.int 0, .int 0, .int 0, .ref (ad 3), .ref (ad 5), .ref (ad 6), .int 0, .int 0, .ref (ad 7), .ref (ad 8), .ref (ad 9), .ref (ad 10), .int 0, .ref (ad 15), .ref (ad 16)])) (h20 : S 20 = .inr (1, [.int 0, .int 0, .int 0, .ref (ad 21), .ref (ad 23), .ref (ad 24), .int 0, .int 0, .ref (ad 25), .ref (ad 26), .ref (ad 27), .ref (ad 28), .int 0, .ref (ad 33), .ref (ad 34)])) (h3 : S 3 = .inr (10, [.int 0, .int 0, .int 0, .int 0, .ref (ad 4)])) (h21 : S 21 = .inr (10, [.int 0, .int 0, .int 0, .int 0, .ref (ad 22)])) (h4 : S 4 = .inl (g.2 0, 36, .inl f4)) (h5 : S 5 = .inl (g.2 0, 12, .inl f5)) (h6 : S 6 = .inl (g.2 0, 12, .inl f6)) (h7 : S 7 = .inl (g.2 0, 8, .inl f7)) (h8 : S 8 = .inl (g.2 0, 8, .inl f8)) (h9 : S 9 = .inl (g.2 0, 8, .inl f9)) (h15 : S 15 = .inl (g.2 0, 3, .inl f15)) (h23 : S 23 = .inl (g.2 0, 12, .inl f23)) (h24 : S 24 = .inl (g.2 0, 12, .inl f24)) (h25 : S 25 = .inl (g.2 0, 8, .inl f25)) (h26 : S 26 = .inl (g.2 0, 8, .inl f26)) (h27 : S 27 = .inl (g.2 0, 8, .inl f27)) (h33 : S 33 = .inl (g.2 0, 3, .inl f33)) (h10 : S 10 = .inr (6, [.int 0, .ref (ad 11), .ref (ad 12), .ref (ad 13), .ref (ad 14)])) (h28 : S 28 = .inr (6, [.int 0, .ref (ad 29), .ref (ad 30), .ref (ad 31), .ref (ad 32)])) (h11 : S 11 = .inl (g.2 0, 6, .inl f11)) (h12 : S 12 = .inl (g.2 0, 6, .inl f12)) (h13 : S 13 = .inl (g.2 0, 6, .inl f13)) (h14 : S 14 = .inl (g.2 0, 6, .inl f14)) (h29 : S 29 = .inl (g.2 0, 6, .inl f29)) (h30 : S 30 = .inl (g.2 0, 6, .inl f30)) (h31 : S 31 = .inl (g.2 0, 6, .inl f31)) (h32 : S 32 = .inl (g.2 0, 6, .inl f32)) (h16 : S 16 = .inr (0, [.int 0, .ref (ad 17), .ref (ad 18), .ref (ad 19)])) (h34 : S 34 = .inr (0, [.int 0, .ref (ad 35), .ref (ad 36), .ref (ad 37)])) (h17 : S 17 = .inl (g.2 0, 40, .inl f17)) (h18 : S 18 = .inl (g.2 0, 40, .inl f18)) (h19 : S 19 = .inl (g.2 0, 40, .inl f19)) (h35 : S 35 = .inl (g.2 0, 40, .inl f35)) (h36 : S 36 = .inl (g.2 0, 40, .inl f36)) (h37 : S 37 = .inl (g.2 0, 40, .inl f37)) : Met l yX1_copyFrom (wG (.code yX1_copyFrom cX1_copyFrom 2 none)) (Rm 2) (XPre g ad 122 S [.ref (ad 2), .ref (ad 20)]) (va_Qv (fun S' => (∀ j, j ∉ ([2, 3, 4, 5, 6, 7, 8, 9, 10, 11, 12, 13, 14, 15, 16, 17, 18, 19] : List Nat) → S' j = S j) ∧ S' 2 = .inr (1, [.int 0, .int 0, .int 0, .ref (ad 3), .ref (ad 5), .ref (ad 6), .int 0, .int 0, .ref (ad 7), .ref (ad 8), .ref (ad 9), .ref (ad 10), .int 0, .ref (ad 15), .ref (ad 16)]) ∧ S' 3 = .inr (10, [.int 0, .int 0, .int 0, .int 0, .ref (ad 4)]) ∧ (∃ f : Nat → Int32, S' 4 = .inl (g.2 0, 36, .inl f)) ∧ (∃ f : Nat → Int32, S' 5 = .inl (g.2 0, 12, .inl f)) ∧ (∃ f : Nat → Int32, S' 6 = .inl (g.2 0, 12, .inl f)) ∧ (∃ f : Nat → Int32, S' 7 = .inl (g.2 0, 8, .inl f)) ∧ (∃ f : Nat → Int32, S' 8 = .inl (g.2 0, 8, .inl f)) ∧ (∃ f : Nat → Int32, S' 9 = .inl (g.2 0, 8, .inl f)) ∧ S' 10 = .inr (6, [.int 0, .ref (ad 11), .ref (ad 12), .ref (ad 13), .ref (ad 14)]) ∧ (∃ f : Nat → Int32, S' 11 = .inl (g.2 0, 6, .inl f)) ∧ (∃ f : Nat → Int32, S' 12 = .inl (g.2 0, 6, .inl f)) ∧ (∃ f : Nat → Int32, S' 13 = .inl (g.2 0, 6, .inl f)) ∧ (∃ f : Nat → Int32, S' 14 = .inl (g.2 0, 6, .inl f)) ∧ (∃ f : Nat → Int32, S' 15 = .inl (g.2 0, 3, .inl f)) ∧ S' 16 = .inr (0, [.int 0, .ref (ad 17), .ref (ad 18), .ref (ad 19)]) ∧ (∃ f : Nat → Int32, S' 17 = .inl (g.2 0, 40, .inl f)) ∧ (∃ f : Nat → Int32, S' 18 = .inl (g.2 0, 40, .inl f)) ∧ (∃ f : Nat → Int32, S' 19 = .inl (g.2 0, 40, .inl f))) (QB g ad 122) (FA ad 122)) 0 0 (FA ad 122) := by
  refine xmet cX1_copyFrom "EbbWreck$Coast" (by decide) rfl (Nat.le_of_ble_eq_true rfl) (fun p e s m below meth c E hr hlk hml hQ ls hl => ?_)
  have hx := E.1
  have hb := E.2.1
  have hs : Sp ad 122 (FA ad 122) := Sp.fa hD
  have hl : lv_has ls 2 [(0, .ref (ad 2)), (1, .ref (ad 20))] := hl
  refine lv_aload_n hx hb dX1_copyFrom_0 rfl (lv_at hl 0 rfl) ?_
  refine lv_aload_n hx hb dX1_copyFrom_1 rfl (lv_at hl 1 rfl) ?_
  refine xget E hQ 20 (by decide) h20 rfl 0 (by decide) q236 rfl dX1_copyFrom_2 ?_
  refine xputi E hs hQ 2 (by decide) h2 rfl 0 (by decide) q236 rfl rfl (Nat.le_of_ble_eq_true rfl) dX1_copyFrom_5 (fun H locs S1 e1 hQ => ?_)
  have u1 : S1 2 = .inr (1, [.int 0, .int 0, .int 0, .ref (ad 3), .ref (ad 5), .ref (ad 6), .int 0, .int 0, .ref (ad 7), .ref (ad 8), .ref (ad 9), .ref (ad 10), .int 0, .ref (ad 15), .ref (ad 16)]) := up_at e1 rfl
  refine lv_aload_n hx hb dX1_copyFrom_8 rfl (lv_at hl 0 rfl) ?_
  refine lv_aload_n hx hb dX1_copyFrom_9 rfl (lv_at hl 1 rfl) ?_
  have c_2 : S1 20 = .inr (1, [.int 0, .int 0, .int 0, .ref (ad 21), .ref (ad 23), .ref (ad 24), .int 0, .int 0, .ref (ad 25), .ref (ad 26), .ref (ad 27), .ref (ad 28), .int 0, .ref (ad 33), .ref (ad 34)]) := (up_ne e1 (by decide) h20)
  refine xget E hQ 20 (by decide) c_2 rfl 1 (by decide) q239 rfl dX1_copyFrom_10 ?_
  refine xputi E hs hQ 2 (by decide) u1 rfl 1 (by decide) q239 rfl rfl (Nat.le_of_ble_eq_true rfl) dX1_copyFrom_13 (fun H locs S3 e3 hQ => ?_)
  have u3 : S3 2 = .inr (1, [.int 0, .int 0, .int 0, .ref (ad 3), .ref (ad 5), .ref (ad 6), .int 0, .int 0, .ref (ad 7), .ref (ad 8), .ref (ad 9), .ref (ad 10), .int 0, .ref (ad 15), .ref (ad 16)]) := up_at e3 rfl
  refine lv_aload_n hx hb dX1_copyFrom_16 rfl (lv_at hl 0 rfl) ?_
  refine lv_aload_n hx hb dX1_copyFrom_17 rfl (lv_at hl 1 rfl) ?_
  have c_4 : S3 20 = .inr (1, [.int 0, .int 0, .int 0, .ref (ad 21), .ref (ad 23), .ref (ad 24), .int 0, .int 0, .ref (ad 25), .ref (ad 26), .ref (ad 27), .ref (ad 28), .int 0, .ref (ad 33), .ref (ad 34)]) := (up_ne e3 (by decide) c_2)
  refine xget E hQ 20 (by decide) c_4 rfl 2 (by decide) q247 rfl dX1_copyFrom_18 ?_
  refine xputi E hs hQ 2 (by decide) u3 rfl 2 (by decide) q247 rfl rfl (Nat.le_of_ble_eq_true rfl) dX1_copyFrom_21 (fun H locs S5 e5 hQ => ?_)
  have u5 : S5 2 = .inr (1, [.int 0, .int 0, .int 0, .ref (ad 3), .ref (ad 5), .ref (ad 6), .int 0, .int 0, .ref (ad 7), .ref (ad 8), .ref (ad 9), .ref (ad 10), .int 0, .ref (ad 15), .ref (ad 16)]) := up_at e5 rfl
  refine lv_aload_n hx hb dX1_copyFrom_24 rfl (lv_at hl 0 rfl) ?_
  refine xget E hQ 2 (by decide) u5 rfl 3 (by decide) q251 rfl dX1_copyFrom_25 ?_
  refine lv_aload_n hx hb dX1_copyFrom_28 rfl (lv_at hl 1 rfl) ?_
  have c_6 : S5 20 = .inr (1, [.int 0, .int 0, .int 0, .ref (ad 21), .ref (ad 23), .ref (ad 24), .int 0, .int 0, .ref (ad 25), .ref (ad 26), .ref (ad 27), .ref (ad 28), .int 0, .ref (ad 33), .ref (ad 34)]) := (up_ne e5 (by decide) c_4)
  refine xget E hQ 20 (by decide) c_6 rfl 3 (by decide) q251 rfl dX1_copyFrom_29 ?_
  have c_7 : S5 21 = .inr (10, [.int 0, .int 0, .int 0, .int 0, .ref (ad 22)]) := (up_ne e5 (by decide) (up_ne e3 (by decide) (up_ne e1 (by decide) h21)))
  refine xget E hQ 21 (by decide) c_7 rfl 0 (by decide) q156 rfl dX1_copyFrom_32 ?_
  refine lv_aload_n hx hb dX1_copyFrom_35 rfl (lv_at hl 1 rfl) ?_
  refine xget E hQ 20 (by decide) c_6 rfl 3 (by decide) q251 rfl dX1_copyFrom_36 ?_
  refine xget E hQ 21 (by decide) c_7 rfl 1 (by decide) q159 rfl dX1_copyFrom_39 ?_
  refine lv_aload_n hx hb dX1_copyFrom_42 rfl (lv_at hl 1 rfl) ?_
  refine xget E hQ 20 (by decide) c_6 rfl 3 (by decide) q251 rfl dX1_copyFrom_43 ?_
  refine xget E hQ 21 (by decide) c_7 rfl 2 (by decide) q162 rfl dX1_copyFrom_46 ?_
  have c_8 : S5 4 = .inl (g.2 0, 36, .inl f4) := (up_ne e5 (by decide) (up_ne e3 (by decide) (up_ne e1 (by decide) h4)))
  have c_9 : S5 3 = .inr (10, [.int 0, .int 0, .int 0, .int 0, .ref (ad 4)]) := (up_ne e5 (by decide) (up_ne e3 (by decide) (up_ne e1 (by decide) h3)))
  refine xcVv E hs hQ hml hl.1 3 (tell_3 l g ad hD S5 f4 c_9 c_8) mX10_tell q592 (by decide) c_9 rfl rfl ⟨by decide, by decide⟩ ⟨by decide, by decide⟩ (Nat.le_of_ble_eq_true rfl) rfl dX1_copyFrom_49 (fun S10 H locs hp10 hQ _ => ?_)
  obtain ⟨o10, v10_3, ⟨f10_4, v10_4⟩⟩ := hp10
  refine lv_aload_n hx hb dX1_copyFrom_52 rfl (lv_at hl 1 rfl) ?_
  have c_11 : S10 20 = .inr (1, [.int 0, .int 0, .int 0, .ref (ad 21), .ref (ad 23), .ref (ad 24), .int 0, .int 0, .ref (ad 25), .ref (ad 26), .ref (ad 27), .ref (ad 28), .int 0, .ref (ad 33), .ref (ad 34)]) := ((o10 20 (by decide)).trans c_6)
  refine xget E hQ 20 (by decide) c_11 rfl 4 (by decide) q257 rfl dX1_copyFrom_53 ?_
  refine lv_iconst (v := 0) hx hb dX1_copyFrom_56 (by decide) ?_
  refine lv_aload_n hx hb dX1_copyFrom_57 rfl (lv_at hl 0 rfl) ?_
  have c_12 : S10 2 = .inr (1, [.int 0, .int 0, .int 0, .ref (ad 3), .ref (ad 5), .ref (ad 6), .int 0, .int 0, .ref (ad 7), .ref (ad 8), .ref (ad 9), .ref (ad 10), .int 0, .ref (ad 15), .ref (ad 16)]) := ((o10 2 (by decide)).trans u5)
  refine xget E hQ 2 (by decide) c_12 rfl 4 (by decide) q257 rfl dX1_copyFrom_58 ?_
  refine lv_iconst (v := 0) hx hb dX1_copyFrom_61 (by decide) ?_
  refine lv_bipush (v := 12) hx hb dX1_copyFrom_62 (by decide) ?_
  have c_13 : S10 23 = .inl (g.2 0, 12, .inl f23) := ((o10 23 (by decide)).trans (up_ne e5 (by decide) (up_ne e3 (by decide) (up_ne e1 (by decide) h23))))
  have c_14 : S10 5 = .inl (g.2 0, 12, .inl f5) := ((o10 5 (by decide)).trans (up_ne e5 (by decide) (up_ne e3 (by decide) (up_ne e1 (by decide) h5))))
  refine xcopyi E hs hQ hml hl.1 23 (by decide) 5 (by decide) c_13 c_14 q749 (by decide) (by decide) (by decide) (Nat.le_of_ble_eq_true rfl) (Nat.le_of_ble_eq_true rfl) (Nat.le_of_ble_eq_true rfl) (Nat.le_of_ble_eq_true rfl) dX1_copyFrom_64 (fun H locs S15 e15 hQ => ?_)
  have u15 : S15 5 = .inl (g.2 0, 12, .inl (va_cpy f23 f5 (0 : Int32).toNatClampNeg (0 : Int32).toNatClampNeg (12 : Int32).toNatClampNeg)) := up_at e15 rfl
  refine lv_aload_n hx hb dX1_copyFrom_67 rfl (lv_at hl 1 rfl) ?_
  have c_16 : S15 20 = .inr (1, [.int 0, .int 0, .int 0, .ref (ad 21), .ref (ad 23), .ref (ad 24), .int 0, .int 0, .ref (ad 25), .ref (ad 26), .ref (ad 27), .ref (ad 28), .int 0, .ref (ad 33), .ref (ad 34)]) := (up_ne e15 (by decide) c_11)
  refine xget E hQ 20 (by decide) c_16 rfl 5 (by decide) q260 rfl dX1_copyFrom_68 ?_
  refine lv_iconst (v := 0) hx hb dX1_copyFrom_71 (by decide) ?_
  refine lv_aload_n hx hb dX1_copyFrom_72 rfl (lv_at hl 0 rfl) ?_
  have c_17 : S15 2 = .inr (1, [.int 0, .int 0, .int 0, .ref (ad 3), .ref (ad 5), .ref (ad 6), .int 0, .int 0, .ref (ad 7), .ref (ad 8), .ref (ad 9), .ref (ad 10), .int 0, .ref (ad 15), .ref (ad 16)]) := (up_ne e15 (by decide) c_12)
  refine xget E hQ 2 (by decide) c_17 rfl 5 (by decide) q260 rfl dX1_copyFrom_73 ?_
  refine lv_iconst (v := 0) hx hb dX1_copyFrom_76 (by decide) ?_
  refine lv_bipush (v := 12) hx hb dX1_copyFrom_77 (by decide) ?_
  have c_18 : S15 24 = .inl (g.2 0, 12, .inl f24) := (up_ne e15 (by decide) ((o10 24 (by decide)).trans (up_ne e5 (by decide) (up_ne e3 (by decide) (up_ne e1 (by decide) h24)))))
  have c_19 : S15 6 = .inl (g.2 0, 12, .inl f6) := (up_ne e15 (by decide) ((o10 6 (by decide)).trans (up_ne e5 (by decide) (up_ne e3 (by decide) (up_ne e1 (by decide) h6)))))
  refine xcopyi E hs hQ hml hl.1 24 (by decide) 6 (by decide) c_18 c_19 q749 (by decide) (by decide) (by decide) (Nat.le_of_ble_eq_true rfl) (Nat.le_of_ble_eq_true rfl) (Nat.le_of_ble_eq_true rfl) (Nat.le_of_ble_eq_true rfl) dX1_copyFrom_79 (fun H locs S20 e20 hQ => ?_)
  have u20 : S20 6 = .inl (g.2 0, 12, .inl (va_cpy f24 f6 (0 : Int32).toNatClampNeg (0 : Int32).toNatClampNeg (12 : Int32).toNatClampNeg)) := up_at e20 rfl
  refine lv_aload_n hx hb dX1_copyFrom_82 rfl (lv_at hl 0 rfl) ?_
  refine lv_aload_n hx hb dX1_copyFrom_83 rfl (lv_at hl 1 rfl) ?_
  have c_21 : S20 20 = .inr (1, [.int 0, .int 0, .int 0, .ref (ad 21), .ref (ad 23), .ref (ad 24), .int 0, .int 0, .ref (ad 25), .ref (ad 26), .ref (ad 27), .ref (ad 28), .int 0, .ref (ad 33), .ref (ad 34)]) := (up_ne e20 (by decide) c_16)
  refine xget E hQ 20 (by decide) c_21 rfl 6 (by decide) q263 rfl dX1_copyFrom_84 ?_
  have c_22 : S20 2 = .inr (1, [.int 0, .int 0, .int 0, .ref (ad 3), .ref (ad 5), .ref (ad 6), .int 0, .int 0, .ref (ad 7), .ref (ad 8), .ref (ad 9), .ref (ad 10), .int 0, .ref (ad 15), .ref (ad 16)]) := (up_ne e20 (by decide) c_17)
  refine xputi E hs hQ 2 (by decide) c_22 rfl 6 (by decide) q263 rfl rfl (Nat.le_of_ble_eq_true rfl) dX1_copyFrom_87 (fun H locs S23 e23 hQ => ?_)
  have u23 : S23 2 = .inr (1, [.int 0, .int 0, .int 0, .ref (ad 3), .ref (ad 5), .ref (ad 6), .int 0, .int 0, .ref (ad 7), .ref (ad 8), .ref (ad 9), .ref (ad 10), .int 0, .ref (ad 15), .ref (ad 16)]) := up_at e23 rfl
  refine lv_aload_n hx hb dX1_copyFrom_90 rfl (lv_at hl 0 rfl) ?_
  refine lv_aload_n hx hb dX1_copyFrom_91 rfl (lv_at hl 1 rfl) ?_
  have c_24 : S23 20 = .inr (1, [.int 0, .int 0, .int 0, .ref (ad 21), .ref (ad 23), .ref (ad 24), .int 0, .int 0, .ref (ad 25), .ref (ad 26), .ref (ad 27), .ref (ad 28), .int 0, .ref (ad 33), .ref (ad 34)]) := (up_ne e23 (by decide) c_21)
  refine xget E hQ 20 (by decide) c_24 rfl 7 (by decide) q270 rfl dX1_copyFrom_92 ?_
  refine xputi E hs hQ 2 (by decide) u23 rfl 7 (by decide) q270 rfl rfl (Nat.le_of_ble_eq_true rfl) dX1_copyFrom_95 (fun H locs S25 e25 hQ => ?_)
  have u25 : S25 2 = .inr (1, [.int 0, .int 0, .int 0, .ref (ad 3), .ref (ad 5), .ref (ad 6), .int 0, .int 0, .ref (ad 7), .ref (ad 8), .ref (ad 9), .ref (ad 10), .int 0, .ref (ad 15), .ref (ad 16)]) := up_at e25 rfl
  refine lv_aload_n hx hb dX1_copyFrom_98 rfl (lv_at hl 1 rfl) ?_
  have c_26 : S25 20 = .inr (1, [.int 0, .int 0, .int 0, .ref (ad 21), .ref (ad 23), .ref (ad 24), .int 0, .int 0, .ref (ad 25), .ref (ad 26), .ref (ad 27), .ref (ad 28), .int 0, .ref (ad 33), .ref (ad 34)]) := (up_ne e25 (by decide) c_24)
  refine xget E hQ 20 (by decide) c_26 rfl 8 (by decide) q274 rfl dX1_copyFrom_99 ?_
  refine lv_iconst (v := 0) hx hb dX1_copyFrom_102 (by decide) ?_
  refine lv_aload_n hx hb dX1_copyFrom_103 rfl (lv_at hl 0 rfl) ?_
  refine xget E hQ 2 (by decide) u25 rfl 8 (by decide) q274 rfl dX1_copyFrom_104 ?_
  refine lv_iconst (v := 0) hx hb dX1_copyFrom_107 (by decide) ?_
  refine lv_bipush (v := 8) hx hb dX1_copyFrom_108 (by decide) ?_
  have c_27 : S25 25 = .inl (g.2 0, 8, .inl f25) := (up_ne e25 (by decide) (up_ne e23 (by decide) (up_ne e20 (by decide) (up_ne e15 (by decide) ((o10 25 (by decide)).trans (up_ne e5 (by decide) (up_ne e3 (by decide) (up_ne e1 (by decide) h25))))))))
  have c_28 : S25 7 = .inl (g.2 0, 8, .inl f7) := (up_ne e25 (by decide) (up_ne e23 (by decide) (up_ne e20 (by decide) (up_ne e15 (by decide) ((o10 7 (by decide)).trans (up_ne e5 (by decide) (up_ne e3 (by decide) (up_ne e1 (by decide) h7))))))))
  refine xcopyi E hs hQ hml hl.1 25 (by decide) 7 (by decide) c_27 c_28 q749 (by decide) (by decide) (by decide) (Nat.le_of_ble_eq_true rfl) (Nat.le_of_ble_eq_true rfl) (Nat.le_of_ble_eq_true rfl) (Nat.le_of_ble_eq_true rfl) dX1_copyFrom_110 (fun H locs S29 e29 hQ => ?_)
  have u29 : S29 7 = .inl (g.2 0, 8, .inl (va_cpy f25 f7 (0 : Int32).toNatClampNeg (0 : Int32).toNatClampNeg (8 : Int32).toNatClampNeg)) := up_at e29 rfl
  refine lv_aload_n hx hb dX1_copyFrom_113 rfl (lv_at hl 1 rfl) ?_
  have c_30 : S29 20 = .inr (1, [.int 0, .int 0, .int 0, .ref (ad 21), .ref (ad 23), .ref (ad 24), .int 0, .int 0, .ref (ad 25), .ref (ad 26), .ref (ad 27), .ref (ad 28), .int 0, .ref (ad 33), .ref (ad 34)]) := (up_ne e29 (by decide) c_26)
  refine xget E hQ 20 (by decide) c_30 rfl 9 (by decide) q279 rfl dX1_copyFrom_114 ?_
  refine lv_iconst (v := 0) hx hb dX1_copyFrom_117 (by decide) ?_
  refine lv_aload_n hx hb dX1_copyFrom_118 rfl (lv_at hl 0 rfl) ?_
  have c_31 : S29 2 = .inr (1, [.int 0, .int 0, .int 0, .ref (ad 3), .ref (ad 5), .ref (ad 6), .int 0, .int 0, .ref (ad 7), .ref (ad 8), .ref (ad 9), .ref (ad 10), .int 0, .ref (ad 15), .ref (ad 16)]) := (up_ne e29 (by decide) u25)
  refine xget E hQ 2 (by decide) c_31 rfl 9 (by decide) q279 rfl dX1_copyFrom_119 ?_
  refine lv_iconst (v := 0) hx hb dX1_copyFrom_122 (by decide) ?_
  refine lv_bipush (v := 8) hx hb dX1_copyFrom_123 (by decide) ?_
  have c_32 : S29 26 = .inl (g.2 0, 8, .inl f26) := (up_ne e29 (by decide) (up_ne e25 (by decide) (up_ne e23 (by decide) (up_ne e20 (by decide) (up_ne e15 (by decide) ((o10 26 (by decide)).trans (up_ne e5 (by decide) (up_ne e3 (by decide) (up_ne e1 (by decide) h26)))))))))
  have c_33 : S29 8 = .inl (g.2 0, 8, .inl f8) := (up_ne e29 (by decide) (up_ne e25 (by decide) (up_ne e23 (by decide) (up_ne e20 (by decide) (up_ne e15 (by decide) ((o10 8 (by decide)).trans (up_ne e5 (by decide) (up_ne e3 (by decide) (up_ne e1 (by decide) h8)))))))))
  refine xcopyi E hs hQ hml hl.1 26 (by decide) 8 (by decide) c_32 c_33 q749 (by decide) (by decide) (by decide) (Nat.le_of_ble_eq_true rfl) (Nat.le_of_ble_eq_true rfl) (Nat.le_of_ble_eq_true rfl) (Nat.le_of_ble_eq_true rfl) dX1_copyFrom_125 (fun H locs S34 e34 hQ => ?_)
  have u34 : S34 8 = .inl (g.2 0, 8, .inl (va_cpy f26 f8 (0 : Int32).toNatClampNeg (0 : Int32).toNatClampNeg (8 : Int32).toNatClampNeg)) := up_at e34 rfl
  refine lv_aload_n hx hb dX1_copyFrom_128 rfl (lv_at hl 1 rfl) ?_
  have c_35 : S34 20 = .inr (1, [.int 0, .int 0, .int 0, .ref (ad 21), .ref (ad 23), .ref (ad 24), .int 0, .int 0, .ref (ad 25), .ref (ad 26), .ref (ad 27), .ref (ad 28), .int 0, .ref (ad 33), .ref (ad 34)]) := (up_ne e34 (by decide) c_30)
  refine xget E hQ 20 (by decide) c_35 rfl 10 (by decide) q284 rfl dX1_copyFrom_129 ?_
  refine lv_iconst (v := 0) hx hb dX1_copyFrom_132 (by decide) ?_
  refine lv_aload_n hx hb dX1_copyFrom_133 rfl (lv_at hl 0 rfl) ?_
  have c_36 : S34 2 = .inr (1, [.int 0, .int 0, .int 0, .ref (ad 3), .ref (ad 5), .ref (ad 6), .int 0, .int 0, .ref (ad 7), .ref (ad 8), .ref (ad 9), .ref (ad 10), .int 0, .ref (ad 15), .ref (ad 16)]) := (up_ne e34 (by decide) c_31)
  refine xget E hQ 2 (by decide) c_36 rfl 10 (by decide) q284 rfl dX1_copyFrom_134 ?_
  refine lv_iconst (v := 0) hx hb dX1_copyFrom_137 (by decide) ?_
  refine lv_bipush (v := 8) hx hb dX1_copyFrom_138 (by decide) ?_
  have c_37 : S34 27 = .inl (g.2 0, 8, .inl f27) := (up_ne e34 (by decide) (up_ne e29 (by decide) (up_ne e25 (by decide) (up_ne e23 (by decide) (up_ne e20 (by decide) (up_ne e15 (by decide) ((o10 27 (by decide)).trans (up_ne e5 (by decide) (up_ne e3 (by decide) (up_ne e1 (by decide) h27))))))))))
  have c_38 : S34 9 = .inl (g.2 0, 8, .inl f9) := (up_ne e34 (by decide) (up_ne e29 (by decide) (up_ne e25 (by decide) (up_ne e23 (by decide) (up_ne e20 (by decide) (up_ne e15 (by decide) ((o10 9 (by decide)).trans (up_ne e5 (by decide) (up_ne e3 (by decide) (up_ne e1 (by decide) h9))))))))))
  refine xcopyi E hs hQ hml hl.1 27 (by decide) 9 (by decide) c_37 c_38 q749 (by decide) (by decide) (by decide) (Nat.le_of_ble_eq_true rfl) (Nat.le_of_ble_eq_true rfl) (Nat.le_of_ble_eq_true rfl) (Nat.le_of_ble_eq_true rfl) dX1_copyFrom_140 (fun H locs S39 e39 hQ => ?_)
  have u39 : S39 9 = .inl (g.2 0, 8, .inl (va_cpy f27 f9 (0 : Int32).toNatClampNeg (0 : Int32).toNatClampNeg (8 : Int32).toNatClampNeg)) := up_at e39 rfl
  refine lv_aload_n hx hb dX1_copyFrom_143 rfl (lv_at hl 0 rfl) ?_
  have c_40 : S39 2 = .inr (1, [.int 0, .int 0, .int 0, .ref (ad 3), .ref (ad 5), .ref (ad 6), .int 0, .int 0, .ref (ad 7), .ref (ad 8), .ref (ad 9), .ref (ad 10), .int 0, .ref (ad 15), .ref (ad 16)]) := (up_ne e39 (by decide) c_36)
  refine xget E hQ 2 (by decide) c_40 rfl 11 (by decide) q289 rfl dX1_copyFrom_144 ?_
  refine lv_aload_n hx hb dX1_copyFrom_147 rfl (lv_at hl 1 rfl) ?_
  have c_41 : S39 20 = .inr (1, [.int 0, .int 0, .int 0, .ref (ad 21), .ref (ad 23), .ref (ad 24), .int 0, .int 0, .ref (ad 25), .ref (ad 26), .ref (ad 27), .ref (ad 28), .int 0, .ref (ad 33), .ref (ad 34)]) := (up_ne e39 (by decide) c_35)
  refine xget E hQ 20 (by decide) c_41 rfl 11 (by decide) q289 rfl dX1_copyFrom_148 ?_
  have c_42 : S39 11 = .inl (g.2 0, 6, .inl f11) := (up_ne e39 (by decide) (up_ne e34 (by decide) (up_ne e29 (by decide) (up_ne e25 (by decide) (up_ne e23 (by decide) (up_ne e20 (by decide) (up_ne e15 (by decide) ((o10 11 (by decide)).trans (up_ne e5 (by decide) (up_ne e3 (by decide) (up_ne e1 (by decide) h11)))))))))))
  have c_43 : S39 12 = .inl (g.2 0, 6, .inl f12) := (up_ne e39 (by decide) (up_ne e34 (by decide) (up_ne e29 (by decide) (up_ne e25 (by decide) (up_ne e23 (by decide) (up_ne e20 (by decide) (up_ne e15 (by decide) ((o10 12 (by decide)).trans (up_ne e5 (by decide) (up_ne e3 (by decide) (up_ne e1 (by decide) h12)))))))))))
  have c_44 : S39 13 = .inl (g.2 0, 6, .inl f13) := (up_ne e39 (by decide) (up_ne e34 (by decide) (up_ne e29 (by decide) (up_ne e25 (by decide) (up_ne e23 (by decide) (up_ne e20 (by decide) (up_ne e15 (by decide) ((o10 13 (by decide)).trans (up_ne e5 (by decide) (up_ne e3 (by decide) (up_ne e1 (by decide) h13)))))))))))
  have c_45 : S39 14 = .inl (g.2 0, 6, .inl f14) := (up_ne e39 (by decide) (up_ne e34 (by decide) (up_ne e29 (by decide) (up_ne e25 (by decide) (up_ne e23 (by decide) (up_ne e20 (by decide) (up_ne e15 (by decide) ((o10 14 (by decide)).trans (up_ne e5 (by decide) (up_ne e3 (by decide) (up_ne e1 (by decide) h14)))))))))))
  have c_46 : S39 29 = .inl (g.2 0, 6, .inl f29) := (up_ne e39 (by decide) (up_ne e34 (by decide) (up_ne e29 (by decide) (up_ne e25 (by decide) (up_ne e23 (by decide) (up_ne e20 (by decide) (up_ne e15 (by decide) ((o10 29 (by decide)).trans (up_ne e5 (by decide) (up_ne e3 (by decide) (up_ne e1 (by decide) h29)))))))))))
  have c_47 : S39 30 = .inl (g.2 0, 6, .inl f30) := (up_ne e39 (by decide) (up_ne e34 (by decide) (up_ne e29 (by decide) (up_ne e25 (by decide) (up_ne e23 (by decide) (up_ne e20 (by decide) (up_ne e15 (by decide) ((o10 30 (by decide)).trans (up_ne e5 (by decide) (up_ne e3 (by decide) (up_ne e1 (by decide) h30)))))))))))
  have c_48 : S39 31 = .inl (g.2 0, 6, .inl f31) := (up_ne e39 (by decide) (up_ne e34 (by decide) (up_ne e29 (by decide) (up_ne e25 (by decide) (up_ne e23 (by decide) (up_ne e20 (by decide) (up_ne e15 (by decide) ((o10 31 (by decide)).trans (up_ne e5 (by decide) (up_ne e3 (by decide) (up_ne e1 (by decide) h31)))))))))))
  have c_49 : S39 32 = .inl (g.2 0, 6, .inl f32) := (up_ne e39 (by decide) (up_ne e34 (by decide) (up_ne e29 (by decide) (up_ne e25 (by decide) (up_ne e23 (by decide) (up_ne e20 (by decide) (up_ne e15 (by decide) ((o10 32 (by decide)).trans (up_ne e5 (by decide) (up_ne e3 (by decide) (up_ne e1 (by decide) h32)))))))))))
  have c_50 : S39 10 = .inr (6, [.int 0, .ref (ad 11), .ref (ad 12), .ref (ad 13), .ref (ad 14)]) := (up_ne e39 (by decide) (up_ne e34 (by decide) (up_ne e29 (by decide) (up_ne e25 (by decide) (up_ne e23 (by decide) (up_ne e20 (by decide) (up_ne e15 (by decide) ((o10 10 (by decide)).trans (up_ne e5 (by decide) (up_ne e3 (by decide) (up_ne e1 (by decide) h10)))))))))))
  have c_51 : S39 28 = .inr (6, [.int 0, .ref (ad 29), .ref (ad 30), .ref (ad 31), .ref (ad 32)]) := (up_ne e39 (by decide) (up_ne e34 (by decide) (up_ne e29 (by decide) (up_ne e25 (by decide) (up_ne e23 (by decide) (up_ne e20 (by decide) (up_ne e15 (by decide) ((o10 28 (by decide)).trans (up_ne e5 (by decide) (up_ne e3 (by decide) (up_ne e1 (by decide) h28)))))))))))
  refine xcVv E hs hQ hml hl.1 10 (rbCopy_2_20 l g ad hD S39 f11 f12 f13 f14 f29 f30 f31 f32 c_50 c_51 c_42 c_43 c_44 c_45 c_46 c_47 c_48 c_49) mX6_copyFrom q752 (by decide) c_50 rfl rfl ⟨by decide, by decide⟩ ⟨by decide, by decide⟩ (Nat.le_of_ble_eq_true rfl) rfl dX1_copyFrom_151 (fun S52 H locs hp52 hQ _ => ?_)
  obtain ⟨o52, v52_10, ⟨f52_11, v52_11⟩, ⟨f52_12, v52_12⟩, ⟨f52_13, v52_13⟩, ⟨f52_14, v52_14⟩⟩ := hp52
  refine lv_aload_n hx hb dX1_copyFrom_154 rfl (lv_at hl 0 rfl) ?_
  refine lv_aload_n hx hb dX1_copyFrom_155 rfl (lv_at hl 1 rfl) ?_
  have c_53 : S52 20 = .inr (1, [.int 0, .int 0, .int 0, .ref (ad 21), .ref (ad 23), .ref (ad 24), .int 0, .int 0, .ref (ad 25), .ref (ad 26), .ref (ad 27), .ref (ad 28), .int 0, .ref (ad 33), .ref (ad 34)]) := ((o52 20 (by decide)).trans c_41)
  refine xget E hQ 20 (by decide) c_53 rfl 12 (by decide) q293 rfl dX1_copyFrom_156 ?_
  have c_54 : S52 2 = .inr (1, [.int 0, .int 0, .int 0, .ref (ad 3), .ref (ad 5), .ref (ad 6), .int 0, .int 0, .ref (ad 7), .ref (ad 8), .ref (ad 9), .ref (ad 10), .int 0, .ref (ad 15), .ref (ad 16)]) := ((o52 2 (by decide)).trans c_40)
  refine xputi E hs hQ 2 (by decide) c_54 rfl 12 (by decide) q293 rfl rfl (Nat.le_of_ble_eq_true rfl) dX1_copyFrom_159 (fun H locs S55 e55 hQ => ?_)
  have u55 : S55 2 = .inr (1, [.int 0, .int 0, .int 0, .ref (ad 3), .ref (ad 5), .ref (ad 6), .int 0, .int 0, .ref (ad 7), .ref (ad 8), .ref (ad 9), .ref (ad 10), .int 0, .ref (ad 15), .ref (ad 16)]) := up_at e55 rfl
  refine lv_aload_n hx hb dX1_copyFrom_162 rfl (lv_at hl 1 rfl) ?_
  have c_56 : S55 20 = .inr (1, [.int 0, .int 0, .int 0, .ref (ad 21), .ref (ad 23), .ref (ad 24), .int 0, .int 0, .ref (ad 25), .ref (ad 26), .ref (ad 27), .ref (ad 28), .int 0, .ref (ad 33), .ref (ad 34)]) := (up_ne e55 (by decide) c_53)
  refine xget E hQ 20 (by decide) c_56 rfl 13 (by decide) q297 rfl dX1_copyFrom_163 ?_
  refine lv_iconst (v := 0) hx hb dX1_copyFrom_166 (by decide) ?_
  refine lv_aload_n hx hb dX1_copyFrom_167 rfl (lv_at hl 0 rfl) ?_
  refine xget E hQ 2 (by decide) u55 rfl 13 (by decide) q297 rfl dX1_copyFrom_168 ?_
  refine lv_iconst (v := 0) hx hb dX1_copyFrom_171 (by decide) ?_
  refine lv_iconst (v := 3) hx hb dX1_copyFrom_172 (by decide) ?_
  have c_57 : S55 33 = .inl (g.2 0, 3, .inl f33) := (up_ne e55 (by decide) ((o52 33 (by decide)).trans (up_ne e39 (by decide) (up_ne e34 (by decide) (up_ne e29 (by decide) (up_ne e25 (by decide) (up_ne e23 (by decide) (up_ne e20 (by decide) (up_ne e15 (by decide) ((o10 33 (by decide)).trans (up_ne e5 (by decide) (up_ne e3 (by decide) (up_ne e1 (by decide) h33)))))))))))))
  have c_58 : S55 15 = .inl (g.2 0, 3, .inl f15) := (up_ne e55 (by decide) ((o52 15 (by decide)).trans (up_ne e39 (by decide) (up_ne e34 (by decide) (up_ne e29 (by decide) (up_ne e25 (by decide) (up_ne e23 (by decide) (up_ne e20 (by decide) (up_ne e15 (by decide) ((o10 15 (by decide)).trans (up_ne e5 (by decide) (up_ne e3 (by decide) (up_ne e1 (by decide) h15)))))))))))))
  refine xcopyi E hs hQ hml hl.1 33 (by decide) 15 (by decide) c_57 c_58 q749 (by decide) (by decide) (by decide) (Nat.le_of_ble_eq_true rfl) (Nat.le_of_ble_eq_true rfl) (Nat.le_of_ble_eq_true rfl) (Nat.le_of_ble_eq_true rfl) dX1_copyFrom_173 (fun H locs S59 e59 hQ => ?_)
  have u59 : S59 15 = .inl (g.2 0, 3, .inl (va_cpy f33 f15 (0 : Int32).toNatClampNeg (0 : Int32).toNatClampNeg (3 : Int32).toNatClampNeg)) := up_at e59 rfl
  refine lv_aload_n hx hb dX1_copyFrom_176 rfl (lv_at hl 0 rfl) ?_
  have c_60 : S59 2 = .inr (1, [.int 0, .int 0, .int 0, .ref (ad 3), .ref (ad 5), .ref (ad 6), .int 0, .int 0, .ref (ad 7), .ref (ad 8), .ref (ad 9), .ref (ad 10), .int 0, .ref (ad 15), .ref (ad 16)]) := (up_ne e59 (by decide) u55)
  refine xget E hQ 2 (by decide) c_60 rfl 14 (by decide) q301 rfl dX1_copyFrom_177 ?_
  refine lv_aload_n hx hb dX1_copyFrom_180 rfl (lv_at hl 1 rfl) ?_
  have c_61 : S59 20 = .inr (1, [.int 0, .int 0, .int 0, .ref (ad 21), .ref (ad 23), .ref (ad 24), .int 0, .int 0, .ref (ad 25), .ref (ad 26), .ref (ad 27), .ref (ad 28), .int 0, .ref (ad 33), .ref (ad 34)]) := (up_ne e59 (by decide) c_56)
  refine xget E hQ 20 (by decide) c_61 rfl 14 (by decide) q301 rfl dX1_copyFrom_181 ?_
  have c_62 : S59 17 = .inl (g.2 0, 40, .inl f17) := (up_ne e59 (by decide) (up_ne e55 (by decide) ((o52 17 (by decide)).trans (up_ne e39 (by decide) (up_ne e34 (by decide) (up_ne e29 (by decide) (up_ne e25 (by decide) (up_ne e23 (by decide) (up_ne e20 (by decide) (up_ne e15 (by decide) ((o10 17 (by decide)).trans (up_ne e5 (by decide) (up_ne e3 (by decide) (up_ne e1 (by decide) h17))))))))))))))
  have c_63 : S59 18 = .inl (g.2 0, 40, .inl f18) := (up_ne e59 (by decide) (up_ne e55 (by decide) ((o52 18 (by decide)).trans (up_ne e39 (by decide) (up_ne e34 (by decide) (up_ne e29 (by decide) (up_ne e25 (by decide) (up_ne e23 (by decide) (up_ne e20 (by decide) (up_ne e15 (by decide) ((o10 18 (by decide)).trans (up_ne e5 (by decide) (up_ne e3 (by decide) (up_ne e1 (by decide) h18))))))))))))))
  have c_64 : S59 19 = .inl (g.2 0, 40, .inl f19) := (up_ne e59 (by decide) (up_ne e55 (by decide) ((o52 19 (by decide)).trans (up_ne e39 (by decide) (up_ne e34 (by decide) (up_ne e29 (by decide) (up_ne e25 (by decide) (up_ne e23 (by decide) (up_ne e20 (by decide) (up_ne e15 (by decide) ((o10 19 (by decide)).trans (up_ne e5 (by decide) (up_ne e3 (by decide) (up_ne e1 (by decide) h19))))))))))))))
  have c_65 : S59 35 = .inl (g.2 0, 40, .inl f35) := (up_ne e59 (by decide) (up_ne e55 (by decide) ((o52 35 (by decide)).trans (up_ne e39 (by decide) (up_ne e34 (by decide) (up_ne e29 (by decide) (up_ne e25 (by decide) (up_ne e23 (by decide) (up_ne e20 (by decide) (up_ne e15 (by decide) ((o10 35 (by decide)).trans (up_ne e5 (by decide) (up_ne e3 (by decide) (up_ne e1 (by decide) h35))))))))))))))
  have c_66 : S59 36 = .inl (g.2 0, 40, .inl f36) := (up_ne e59 (by decide) (up_ne e55 (by decide) ((o52 36 (by decide)).trans (up_ne e39 (by decide) (up_ne e34 (by decide) (up_ne e29 (by decide) (up_ne e25 (by decide) (up_ne e23 (by decide) (up_ne e20 (by decide) (up_ne e15 (by decide) ((o10 36 (by decide)).trans (up_ne e5 (by decide) (up_ne e3 (by decide) (up_ne e1 (by decide) h36))))))))))))))
  have c_67 : S59 37 = .inl (g.2 0, 40, .inl f37) := (up_ne e59 (by decide) (up_ne e55 (by decide) ((o52 37 (by decide)).trans (up_ne e39 (by decide) (up_ne e34 (by decide) (up_ne e29 (by decide) (up_ne e25 (by decide) (up_ne e23 (by decide) (up_ne e20 (by decide) (up_ne e15 (by decide) ((o10 37 (by decide)).trans (up_ne e5 (by decide) (up_ne e3 (by decide) (up_ne e1 (by decide) h37))))))))))))))
  have c_68 : S59 16 = .inr (0, [.int 0, .ref (ad 17), .ref (ad 18), .ref (ad 19)]) := (up_ne e59 (by decide) (up_ne e55 (by decide) ((o52 16 (by decide)).trans (up_ne e39 (by decide) (up_ne e34 (by decide) (up_ne e29 (by decide) (up_ne e25 (by decide) (up_ne e23 (by decide) (up_ne e20 (by decide) (up_ne e15 (by decide) ((o10 16 (by decide)).trans (up_ne e5 (by decide) (up_ne e3 (by decide) (up_ne e1 (by decide) h16))))))))))))))
  have c_69 : S59 34 = .inr (0, [.int 0, .ref (ad 35), .ref (ad 36), .ref (ad 37)]) := (up_ne e59 (by decide) (up_ne e55 (by decide) ((o52 34 (by decide)).trans (up_ne e39 (by decide) (up_ne e34 (by decide) (up_ne e29 (by decide) (up_ne e25 (by decide) (up_ne e23 (by decide) (up_ne e20 (by decide) (up_ne e15 (by decide) ((o10 34 (by decide)).trans (up_ne e5 (by decide) (up_ne e3 (by decide) (up_ne e1 (by decide) h34))))))))))))))
  refine xcVv E hs hQ hml hl.1 16 (acCopy_2_20 l g ad hD S59 f17 f18 f19 f35 f36 f37 c_68 c_69 c_62 c_63 c_64 c_65 c_66 c_67) mX0_copyFrom q757 (by decide) c_68 rfl rfl ⟨by decide, by decide⟩ ⟨by decide, by decide⟩ (Nat.le_of_ble_eq_true rfl) rfl dX1_copyFrom_184 (fun S70 H locs hp70 hQ _ => ?_)
  obtain ⟨o70, v70_16, ⟨f70_17, v70_17⟩, ⟨f70_18, v70_18⟩, ⟨f70_19, v70_19⟩⟩ := hp70
  have c_71 : S70 2 = .inr (1, [.int 0, .int 0, .int 0, .ref (ad 3), .ref (ad 5), .ref (ad 6), .int 0, .int 0, .ref (ad 7), .ref (ad 8), .ref (ad 9), .ref (ad 10), .int 0, .ref (ad 15), .ref (ad 16)]) := ((o70 2 (by decide)).trans c_60)
  have c_72 : S70 3 = .inr (10, [.int 0, .int 0, .int 0, .int 0, .ref (ad 4)]) := ((o70 3 (by decide)).trans (up_ne e59 (by decide) (up_ne e55 (by decide) ((o52 3 (by decide)).trans (up_ne e39 (by decide) (up_ne e34 (by decide) (up_ne e29 (by decide) (up_ne e25 (by decide) (up_ne e23 (by decide) (up_ne e20 (by decide) (up_ne e15 (by decide) v10_3)))))))))))
  have c_73 : S70 4 = .inl (g.2 0, 36, .inl f10_4) := ((o70 4 (by decide)).trans (up_ne e59 (by decide) (up_ne e55 (by decide) ((o52 4 (by decide)).trans (up_ne e39 (by decide) (up_ne e34 (by decide) (up_ne e29 (by decide) (up_ne e25 (by decide) (up_ne e23 (by decide) (up_ne e20 (by decide) (up_ne e15 (by decide) v10_4)))))))))))
  have c_74 : S70 5 = .inl (g.2 0, 12, .inl (va_cpy f23 f5 (0 : Int32).toNatClampNeg (0 : Int32).toNatClampNeg (12 : Int32).toNatClampNeg)) := ((o70 5 (by decide)).trans (up_ne e59 (by decide) (up_ne e55 (by decide) ((o52 5 (by decide)).trans (up_ne e39 (by decide) (up_ne e34 (by decide) (up_ne e29 (by decide) (up_ne e25 (by decide) (up_ne e23 (by decide) (up_ne e20 (by decide) u15))))))))))
  have c_75 : S70 6 = .inl (g.2 0, 12, .inl (va_cpy f24 f6 (0 : Int32).toNatClampNeg (0 : Int32).toNatClampNeg (12 : Int32).toNatClampNeg)) := ((o70 6 (by decide)).trans (up_ne e59 (by decide) (up_ne e55 (by decide) ((o52 6 (by decide)).trans (up_ne e39 (by decide) (up_ne e34 (by decide) (up_ne e29 (by decide) (up_ne e25 (by decide) (up_ne e23 (by decide) u20)))))))))
  have c_76 : S70 7 = .inl (g.2 0, 8, .inl (va_cpy f25 f7 (0 : Int32).toNatClampNeg (0 : Int32).toNatClampNeg (8 : Int32).toNatClampNeg)) := ((o70 7 (by decide)).trans (up_ne e59 (by decide) (up_ne e55 (by decide) ((o52 7 (by decide)).trans (up_ne e39 (by decide) (up_ne e34 (by decide) u29))))))
  have c_77 : S70 8 = .inl (g.2 0, 8, .inl (va_cpy f26 f8 (0 : Int32).toNatClampNeg (0 : Int32).toNatClampNeg (8 : Int32).toNatClampNeg)) := ((o70 8 (by decide)).trans (up_ne e59 (by decide) (up_ne e55 (by decide) ((o52 8 (by decide)).trans (up_ne e39 (by decide) u34)))))
  have c_78 : S70 9 = .inl (g.2 0, 8, .inl (va_cpy f27 f9 (0 : Int32).toNatClampNeg (0 : Int32).toNatClampNeg (8 : Int32).toNatClampNeg)) := ((o70 9 (by decide)).trans (up_ne e59 (by decide) (up_ne e55 (by decide) ((o52 9 (by decide)).trans u39))))
  have c_79 : S70 10 = .inr (6, [.int 0, .ref (ad 11), .ref (ad 12), .ref (ad 13), .ref (ad 14)]) := ((o70 10 (by decide)).trans (up_ne e59 (by decide) (up_ne e55 (by decide) v52_10)))
  have c_80 : S70 11 = .inl (g.2 0, 6, .inl f52_11) := ((o70 11 (by decide)).trans (up_ne e59 (by decide) (up_ne e55 (by decide) v52_11)))
  have c_81 : S70 12 = .inl (g.2 0, 6, .inl f52_12) := ((o70 12 (by decide)).trans (up_ne e59 (by decide) (up_ne e55 (by decide) v52_12)))
  have c_82 : S70 13 = .inl (g.2 0, 6, .inl f52_13) := ((o70 13 (by decide)).trans (up_ne e59 (by decide) (up_ne e55 (by decide) v52_13)))
  have c_83 : S70 14 = .inl (g.2 0, 6, .inl f52_14) := ((o70 14 (by decide)).trans (up_ne e59 (by decide) (up_ne e55 (by decide) v52_14)))
  have c_84 : S70 15 = .inl (g.2 0, 3, .inl (va_cpy f33 f15 (0 : Int32).toNatClampNeg (0 : Int32).toNatClampNeg (3 : Int32).toNatClampNeg)) := ((o70 15 (by decide)).trans u59)
  exact xrv E hr hlk hQ (⟨fun j hj => ((o70 j (fun h => hj ((by decide : ∀ x ∈ ([16, 17, 18, 19] : List Nat), x ∈ ([2, 3, 4, 5, 6, 7, 8, 9, 10, 11, 12, 13, 14, 15, 16, 17, 18, 19] : List Nat)) j h))).trans (up_ne e59 (fun h => hj (by subst h; decide)) (up_ne e55 (fun h => hj (by subst h; decide)) ((o52 j (fun h => hj ((by decide : ∀ x ∈ ([10, 11, 12, 13, 14] : List Nat), x ∈ ([2, 3, 4, 5, 6, 7, 8, 9, 10, 11, 12, 13, 14, 15, 16, 17, 18, 19] : List Nat)) j h))).trans (up_ne e39 (fun h => hj (by subst h; decide)) (up_ne e34 (fun h => hj (by subst h; decide)) (up_ne e29 (fun h => hj (by subst h; decide)) (up_ne e25 (fun h => hj (by subst h; decide)) (up_ne e23 (fun h => hj (by subst h; decide)) (up_ne e20 (fun h => hj (by subst h; decide)) (up_ne e15 (fun h => hj (by subst h; decide)) ((o10 j (fun h => hj ((by decide : ∀ x ∈ ([3, 4] : List Nat), x ∈ ([2, 3, 4, 5, 6, 7, 8, 9, 10, 11, 12, 13, 14, 15, 16, 17, 18, 19] : List Nat)) j h))).trans (up_ne e5 (fun h => hj (by subst h; decide)) (up_ne e3 (fun h => hj (by subst h; decide)) (up_ne e1 (fun h => hj (by subst h; decide)) rfl))))))))))))))), c_71, c_72, ⟨_, c_73⟩, ⟨_, c_74⟩, ⟨_, c_75⟩, ⟨_, c_76⟩, ⟨_, c_77⟩, ⟨_, c_78⟩, c_79, ⟨_, c_80⟩, ⟨_, c_81⟩, ⟨_, c_82⟩, ⟨_, c_83⟩, ⟨_, c_84⟩, v70_16, ⟨_, v70_17⟩, ⟨_, v70_18⟩, ⟨_, v70_19⟩⟩) dX1_copyFrom_187
set_option maxHeartbeats 4000000 in
set_option maxRecDepth 100000 in
theorem fX11_image_0 (l : Launch) (g : GG) (ad : Nat → Nat) (hD : Dj ad 122) (S : SS) (hX : ∀ i, i < 122 → S i = X0 g ad i) : Met l yX11_image (wG (.code yX11_image cX11_image 2 (some .int))) (Rm 3) (XPre g ad 122 S [.ref (ad 0), .int 0]) (va_Qi (fun r _ => r = ansImage 0) (QB g ad 122) (FA ad 122)) 0 0 (FA ad 122) := by
  refine xmet cX11_image "EbbWreck" (by decide) rfl (Nat.le_of_ble_eq_true rfl) (fun p e s m below meth c E hr hlk hml hQ ls hl => ?_)
  have hx := E.1
  have hb := E.2.1
  have hs : Sp ad 122 (FA ad 122) := Sp.fa hD
  have hl : lv_has ls 2 [(0, .ref (ad 0)), (1, .int 0)] := hl
  refine lv_iload_n hx hb dX11_image_0 rfl (lv_at hl 1 rfl) ?_
  refine lv_if_lt (tgt := 9) hx hb dX11_image_1 (by decide) (fun k_1 => absurd k_1 (by decide)) (fun k_1 => ?_)
  refine lv_iload_n hx hb dX11_image_4 rfl (lv_at hl 1 rfl) ?_
  refine lv_iconst (v := 3) hx hb dX11_image_5 (by decide) ?_
  refine lv_icmp_lt (tgt := 12) hx hb dX11_image_6 (by decide) (fun k_2 => ?_) (fun k_2 => absurd k_2 (by decide))
  refine lv_aload_n hx hb dX11_image_12 rfl (lv_at hl 0 rfl) ?_
  have c_3 : S 0 = .inr (11, [.ref (ad 1), .int 0, .int 0, .int (-1), .ref (ad 2), .ref (ad 20), .ref (ad 38), .ref (ad 93), .ref (ad 94), .ref (ad 95), .ref (ad 102), .ref (ad 104), .ref (ad 107), .ref (ad 111), .ref (ad 119)]) := (hX 0 (by decide))
  refine xget E hQ 0 (by decide) c_3 rfl 6 (by decide) q522 rfl dX11_image_13 ?_
  refine lv_iload_n hx hb dX11_image_16 rfl (lv_at hl 1 rfl) ?_
  have c_4 : S 38 = .inl (g.2 4, 3, .inr (.inr (.inr (.inr (imF ad))))) := (hX 38 (by decide))
  refine xqald E hQ 38 (by decide) c_4 (vp_in_lit 0 3 (by decide)) rfl dX11_image_17 ?_
  refine lv_aload_n hx hb dX11_image_18 rfl (lv_at hl 0 rfl) ?_
  refine xget E hQ 0 (by decide) c_3 rfl 4 (by decide) q520 rfl dX11_image_19 ?_
  have c_5 : S 41 = .inl (g.2 0, 36, .inl zf) := (hX 41 (by decide))
  have c_6 : S 42 = .inl (g.2 0, 12, .inl zf) := (hX 42 (by decide))
  have c_7 : S 43 = .inl (g.2 0, 12, .inl zf) := (hX 43 (by decide))
  have c_8 : S 44 = .inl (g.2 0, 8, .inl zf) := (hX 44 (by decide))
  have c_9 : S 45 = .inl (g.2 0, 8, .inl zf) := (hX 45 (by decide))
  have c_10 : S 46 = .inl (g.2 0, 8, .inl zf) := (hX 46 (by decide))
  have c_11 : S 52 = .inl (g.2 0, 3, .inl zf) := (hX 52 (by decide))
  have c_12 : S 5 = .inl (g.2 0, 12, .inl zf) := (hX 5 (by decide))
  have c_13 : S 6 = .inl (g.2 0, 12, .inl zf) := (hX 6 (by decide))
  have c_14 : S 7 = .inl (g.2 0, 8, .inl zf) := (hX 7 (by decide))
  have c_15 : S 8 = .inl (g.2 0, 8, .inl zf) := (hX 8 (by decide))
  have c_16 : S 9 = .inl (g.2 0, 8, .inl zf) := (hX 9 (by decide))
  have c_17 : S 15 = .inl (g.2 0, 3, .inl zf) := (hX 15 (by decide))
  have c_18 : S 48 = .inl (g.2 0, 6, .inl zf) := (hX 48 (by decide))
  have c_19 : S 49 = .inl (g.2 0, 6, .inl zf) := (hX 49 (by decide))
  have c_20 : S 50 = .inl (g.2 0, 6, .inl zf) := (hX 50 (by decide))
  have c_21 : S 51 = .inl (g.2 0, 6, .inl zf) := (hX 51 (by decide))
  have c_22 : S 11 = .inl (g.2 0, 6, .inl zf) := (hX 11 (by decide))
  have c_23 : S 12 = .inl (g.2 0, 6, .inl zf) := (hX 12 (by decide))
  have c_24 : S 13 = .inl (g.2 0, 6, .inl zf) := (hX 13 (by decide))
  have c_25 : S 14 = .inl (g.2 0, 6, .inl zf) := (hX 14 (by decide))
  have c_26 : S 54 = .inl (g.2 0, 40, .inl zf) := (hX 54 (by decide))
  have c_27 : S 55 = .inl (g.2 0, 40, .inl zf) := (hX 55 (by decide))
  have c_28 : S 56 = .inl (g.2 0, 40, .inl zf) := (hX 56 (by decide))
  have c_29 : S 17 = .inl (g.2 0, 40, .inl zf) := (hX 17 (by decide))
  have c_30 : S 18 = .inl (g.2 0, 40, .inl zf) := (hX 18 (by decide))
  have c_31 : S 19 = .inl (g.2 0, 40, .inl zf) := (hX 19 (by decide))
  have c_32 : S 39 = .inr (1, [.int 0, .int 0, .int 0, .ref (ad 40), .ref (ad 42), .ref (ad 43), .int 0, .int 0, .ref (ad 44), .ref (ad 45), .ref (ad 46), .ref (ad 47), .int 0, .ref (ad 52), .ref (ad 53)]) := (hX 39 (by decide))
  have c_33 : S 2 = .inr (1, [.int 0, .int 0, .int 0, .ref (ad 3), .ref (ad 5), .ref (ad 6), .int 0, .int 0, .ref (ad 7), .ref (ad 8), .ref (ad 9), .ref (ad 10), .int 0, .ref (ad 15), .ref (ad 16)]) := (hX 2 (by decide))
  have c_34 : S 40 = .inr (10, [.int 0, .int 0, .int 0, .int 0, .ref (ad 41)]) := (hX 40 (by decide))
  have c_35 : S 3 = .inr (10, [.int 0, .int 0, .int 0, .int 0, .ref (ad 4)]) := (hX 3 (by decide))
  have c_36 : S 47 = .inr (6, [.int 0, .ref (ad 48), .ref (ad 49), .ref (ad 50), .ref (ad 51)]) := (hX 47 (by decide))
  have c_37 : S 10 = .inr (6, [.int 0, .ref (ad 11), .ref (ad 12), .ref (ad 13), .ref (ad 14)]) := (hX 10 (by decide))
  have c_38 : S 53 = .inr (0, [.int 0, .ref (ad 54), .ref (ad 55), .ref (ad 56)]) := (hX 53 (by decide))
  have c_39 : S 16 = .inr (0, [.int 0, .ref (ad 17), .ref (ad 18), .ref (ad 19)]) := (hX 16 (by decide))
  refine xcVv E hs hQ hml hl.1 39 (cCopy_39_2 l g ad hD S zf zf zf zf zf zf zf zf zf zf zf zf zf zf zf zf zf zf zf zf zf zf zf zf zf zf zf c_32 c_33 c_34 c_35 c_5 c_6 c_7 c_8 c_9 c_10 c_11 c_12 c_13 c_14 c_15 c_16 c_17 c_36 c_37 c_18 c_19 c_20 c_21 c_22 c_23 c_24 c_25 c_38 c_39 c_26 c_27 c_28 c_29 c_30 c_31) mX1_copyFrom q745 (by decide) c_32 rfl rfl ⟨by decide, by decide⟩ ⟨by decide, by decide⟩ (Nat.le_of_ble_eq_true rfl) rfl dX11_image_22 (fun S40 H locs hp40 hQ _ => ?_)
  obtain ⟨o40, v40_39, v40_40, ⟨f40_41, v40_41⟩, ⟨f40_42, v40_42⟩, ⟨f40_43, v40_43⟩, ⟨f40_44, v40_44⟩, ⟨f40_45, v40_45⟩, ⟨f40_46, v40_46⟩, v40_47, ⟨f40_48, v40_48⟩, ⟨f40_49, v40_49⟩, ⟨f40_50, v40_50⟩, ⟨f40_51, v40_51⟩, ⟨f40_52, v40_52⟩, v40_53, ⟨f40_54, v40_54⟩, ⟨f40_55, v40_55⟩, ⟨f40_56, v40_56⟩⟩ := hp40
  refine lv_aload_n hx hb dX11_image_25 rfl (lv_at hl 0 rfl) ?_
  have c_41 : S40 0 = .inr (11, [.ref (ad 1), .int 0, .int 0, .int (-1), .ref (ad 2), .ref (ad 20), .ref (ad 38), .ref (ad 93), .ref (ad 94), .ref (ad 95), .ref (ad 102), .ref (ad 104), .ref (ad 107), .ref (ad 111), .ref (ad 119)]) := ((o40 0 (by decide)).trans c_3)
  refine xget E hQ 0 (by decide) c_41 rfl 7 (by decide) q523 rfl dX11_image_26 ?_
  refine lv_iload_n hx hb dX11_image_29 rfl (lv_at hl 1 rfl) ?_
  refine lv_iconst (v := 1) hx hb dX11_image_30 (by decide) ?_
  have c_42 : S40 93 = .inl (g.2 3, 3, .inl zf) := ((o40 93 (by decide)).trans (hX 93 (by decide)))
  refine xzast E hs hQ 93 (by decide) c_42 (vp_in_lit 0 3 (by decide)) dX11_image_31 (fun H locs S43 e43 hQ => ?_)
  have u43 : S43 93 = .inl (g.2 3, 3, .inl (upd zf (0 : Int32).toNatClampNeg (vp_nar .boolean 1))) := up_at e43 rfl
  refine lv_iconst (v := 0) hx hb dX11_image_32 (by decide) ?_
  have c_44 : S43 39 = .inr (1, [.int 0, .int 0, .int 0, .ref (ad 40), .ref (ad 42), .ref (ad 43), .int 0, .int 0, .ref (ad 44), .ref (ad 45), .ref (ad 46), .ref (ad 47), .int 0, .ref (ad 52), .ref (ad 53)]) := (up_ne e43 (by decide) v40_39)
  have c_45 : S43 40 = .inr (10, [.int 0, .int 0, .int 0, .int 0, .ref (ad 41)]) := (up_ne e43 (by decide) v40_40)
  have c_46 : S43 41 = .inl (g.2 0, 36, .inl f40_41) := (up_ne e43 (by decide) v40_41)
  have c_47 : S43 42 = .inl (g.2 0, 12, .inl f40_42) := (up_ne e43 (by decide) v40_42)
  have c_48 : S43 43 = .inl (g.2 0, 12, .inl f40_43) := (up_ne e43 (by decide) v40_43)
  have c_49 : S43 44 = .inl (g.2 0, 8, .inl f40_44) := (up_ne e43 (by decide) v40_44)
  have c_50 : S43 45 = .inl (g.2 0, 8, .inl f40_45) := (up_ne e43 (by decide) v40_45)
  have c_51 : S43 46 = .inl (g.2 0, 8, .inl f40_46) := (up_ne e43 (by decide) v40_46)
  have c_52 : S43 47 = .inr (6, [.int 0, .ref (ad 48), .ref (ad 49), .ref (ad 50), .ref (ad 51)]) := (up_ne e43 (by decide) v40_47)
  have c_53 : S43 48 = .inl (g.2 0, 6, .inl f40_48) := (up_ne e43 (by decide) v40_48)
  have c_54 : S43 49 = .inl (g.2 0, 6, .inl f40_49) := (up_ne e43 (by decide) v40_49)
  have c_55 : S43 50 = .inl (g.2 0, 6, .inl f40_50) := (up_ne e43 (by decide) v40_50)
  have c_56 : S43 51 = .inl (g.2 0, 6, .inl f40_51) := (up_ne e43 (by decide) v40_51)
  have c_57 : S43 52 = .inl (g.2 0, 3, .inl f40_52) := (up_ne e43 (by decide) v40_52)
  have c_58 : S43 53 = .inr (0, [.int 0, .ref (ad 54), .ref (ad 55), .ref (ad 56)]) := (up_ne e43 (by decide) v40_53)
  have c_59 : S43 54 = .inl (g.2 0, 40, .inl f40_54) := (up_ne e43 (by decide) v40_54)
  have c_60 : S43 55 = .inl (g.2 0, 40, .inl f40_55) := (up_ne e43 (by decide) v40_55)
  have c_61 : S43 56 = .inl (g.2 0, 40, .inl f40_56) := (up_ne e43 (by decide) v40_56)
  exact xri E hr hlk hQ (by decide) dX11_image_33
set_option maxHeartbeats 4000000 in
set_option maxRecDepth 100000 in
theorem fX11_image_1 (l : Launch) (g : GG) (ad : Nat → Nat) (hD : Dj ad 122) (S : SS) (hX : ∀ i, i < 122 → S i = X0 g ad i) : Met l yX11_image (wG (.code yX11_image cX11_image 2 (some .int))) (Rm 3) (XPre g ad 122 S [.ref (ad 0), .int 1]) (va_Qi (fun r _ => r = ansImage 1) (QB g ad 122) (FA ad 122)) 0 0 (FA ad 122) := by
  refine xmet cX11_image "EbbWreck" (by decide) rfl (Nat.le_of_ble_eq_true rfl) (fun p e s m below meth c E hr hlk hml hQ ls hl => ?_)
  have hx := E.1
  have hb := E.2.1
  have hs : Sp ad 122 (FA ad 122) := Sp.fa hD
  have hl : lv_has ls 2 [(0, .ref (ad 0)), (1, .int 1)] := hl
  refine lv_iload_n hx hb dX11_image_0 rfl (lv_at hl 1 rfl) ?_
  refine lv_if_lt (tgt := 9) hx hb dX11_image_1 (by decide) (fun k_1 => absurd k_1 (by decide)) (fun k_1 => ?_)
  refine lv_iload_n hx hb dX11_image_4 rfl (lv_at hl 1 rfl) ?_
  refine lv_iconst (v := 3) hx hb dX11_image_5 (by decide) ?_
  refine lv_icmp_lt (tgt := 12) hx hb dX11_image_6 (by decide) (fun k_2 => ?_) (fun k_2 => absurd k_2 (by decide))
  refine lv_aload_n hx hb dX11_image_12 rfl (lv_at hl 0 rfl) ?_
  have c_3 : S 0 = .inr (11, [.ref (ad 1), .int 0, .int 0, .int (-1), .ref (ad 2), .ref (ad 20), .ref (ad 38), .ref (ad 93), .ref (ad 94), .ref (ad 95), .ref (ad 102), .ref (ad 104), .ref (ad 107), .ref (ad 111), .ref (ad 119)]) := (hX 0 (by decide))
  refine xget E hQ 0 (by decide) c_3 rfl 6 (by decide) q522 rfl dX11_image_13 ?_
  refine lv_iload_n hx hb dX11_image_16 rfl (lv_at hl 1 rfl) ?_
  have c_4 : S 38 = .inl (g.2 4, 3, .inr (.inr (.inr (.inr (imF ad))))) := (hX 38 (by decide))
  refine xqald E hQ 38 (by decide) c_4 (vp_in_lit 1 3 (by decide)) rfl dX11_image_17 ?_
  refine lv_aload_n hx hb dX11_image_18 rfl (lv_at hl 0 rfl) ?_
  refine xget E hQ 0 (by decide) c_3 rfl 4 (by decide) q520 rfl dX11_image_19 ?_
  have c_5 : S 59 = .inl (g.2 0, 36, .inl zf) := (hX 59 (by decide))
  have c_6 : S 60 = .inl (g.2 0, 12, .inl zf) := (hX 60 (by decide))
  have c_7 : S 61 = .inl (g.2 0, 12, .inl zf) := (hX 61 (by decide))
  have c_8 : S 62 = .inl (g.2 0, 8, .inl zf) := (hX 62 (by decide))
  have c_9 : S 63 = .inl (g.2 0, 8, .inl zf) := (hX 63 (by decide))
  have c_10 : S 64 = .inl (g.2 0, 8, .inl zf) := (hX 64 (by decide))
  have c_11 : S 70 = .inl (g.2 0, 3, .inl zf) := (hX 70 (by decide))
  have c_12 : S 5 = .inl (g.2 0, 12, .inl zf) := (hX 5 (by decide))
  have c_13 : S 6 = .inl (g.2 0, 12, .inl zf) := (hX 6 (by decide))
  have c_14 : S 7 = .inl (g.2 0, 8, .inl zf) := (hX 7 (by decide))
  have c_15 : S 8 = .inl (g.2 0, 8, .inl zf) := (hX 8 (by decide))
  have c_16 : S 9 = .inl (g.2 0, 8, .inl zf) := (hX 9 (by decide))
  have c_17 : S 15 = .inl (g.2 0, 3, .inl zf) := (hX 15 (by decide))
  have c_18 : S 66 = .inl (g.2 0, 6, .inl zf) := (hX 66 (by decide))
  have c_19 : S 67 = .inl (g.2 0, 6, .inl zf) := (hX 67 (by decide))
  have c_20 : S 68 = .inl (g.2 0, 6, .inl zf) := (hX 68 (by decide))
  have c_21 : S 69 = .inl (g.2 0, 6, .inl zf) := (hX 69 (by decide))
  have c_22 : S 11 = .inl (g.2 0, 6, .inl zf) := (hX 11 (by decide))
  have c_23 : S 12 = .inl (g.2 0, 6, .inl zf) := (hX 12 (by decide))
  have c_24 : S 13 = .inl (g.2 0, 6, .inl zf) := (hX 13 (by decide))
  have c_25 : S 14 = .inl (g.2 0, 6, .inl zf) := (hX 14 (by decide))
  have c_26 : S 72 = .inl (g.2 0, 40, .inl zf) := (hX 72 (by decide))
  have c_27 : S 73 = .inl (g.2 0, 40, .inl zf) := (hX 73 (by decide))
  have c_28 : S 74 = .inl (g.2 0, 40, .inl zf) := (hX 74 (by decide))
  have c_29 : S 17 = .inl (g.2 0, 40, .inl zf) := (hX 17 (by decide))
  have c_30 : S 18 = .inl (g.2 0, 40, .inl zf) := (hX 18 (by decide))
  have c_31 : S 19 = .inl (g.2 0, 40, .inl zf) := (hX 19 (by decide))
  have c_32 : S 57 = .inr (1, [.int 0, .int 0, .int 0, .ref (ad 58), .ref (ad 60), .ref (ad 61), .int 0, .int 0, .ref (ad 62), .ref (ad 63), .ref (ad 64), .ref (ad 65), .int 0, .ref (ad 70), .ref (ad 71)]) := (hX 57 (by decide))
  have c_33 : S 2 = .inr (1, [.int 0, .int 0, .int 0, .ref (ad 3), .ref (ad 5), .ref (ad 6), .int 0, .int 0, .ref (ad 7), .ref (ad 8), .ref (ad 9), .ref (ad 10), .int 0, .ref (ad 15), .ref (ad 16)]) := (hX 2 (by decide))
  have c_34 : S 58 = .inr (10, [.int 0, .int 0, .int 0, .int 0, .ref (ad 59)]) := (hX 58 (by decide))
  have c_35 : S 3 = .inr (10, [.int 0, .int 0, .int 0, .int 0, .ref (ad 4)]) := (hX 3 (by decide))
  have c_36 : S 65 = .inr (6, [.int 0, .ref (ad 66), .ref (ad 67), .ref (ad 68), .ref (ad 69)]) := (hX 65 (by decide))
  have c_37 : S 10 = .inr (6, [.int 0, .ref (ad 11), .ref (ad 12), .ref (ad 13), .ref (ad 14)]) := (hX 10 (by decide))
  have c_38 : S 71 = .inr (0, [.int 0, .ref (ad 72), .ref (ad 73), .ref (ad 74)]) := (hX 71 (by decide))
  have c_39 : S 16 = .inr (0, [.int 0, .ref (ad 17), .ref (ad 18), .ref (ad 19)]) := (hX 16 (by decide))
  refine xcVv E hs hQ hml hl.1 57 (cCopy_57_2 l g ad hD S zf zf zf zf zf zf zf zf zf zf zf zf zf zf zf zf zf zf zf zf zf zf zf zf zf zf zf c_32 c_33 c_34 c_35 c_5 c_6 c_7 c_8 c_9 c_10 c_11 c_12 c_13 c_14 c_15 c_16 c_17 c_36 c_37 c_18 c_19 c_20 c_21 c_22 c_23 c_24 c_25 c_38 c_39 c_26 c_27 c_28 c_29 c_30 c_31) mX1_copyFrom q745 (by decide) c_32 rfl rfl ⟨by decide, by decide⟩ ⟨by decide, by decide⟩ (Nat.le_of_ble_eq_true rfl) rfl dX11_image_22 (fun S40 H locs hp40 hQ _ => ?_)
  obtain ⟨o40, v40_57, v40_58, ⟨f40_59, v40_59⟩, ⟨f40_60, v40_60⟩, ⟨f40_61, v40_61⟩, ⟨f40_62, v40_62⟩, ⟨f40_63, v40_63⟩, ⟨f40_64, v40_64⟩, v40_65, ⟨f40_66, v40_66⟩, ⟨f40_67, v40_67⟩, ⟨f40_68, v40_68⟩, ⟨f40_69, v40_69⟩, ⟨f40_70, v40_70⟩, v40_71, ⟨f40_72, v40_72⟩, ⟨f40_73, v40_73⟩, ⟨f40_74, v40_74⟩⟩ := hp40
  refine lv_aload_n hx hb dX11_image_25 rfl (lv_at hl 0 rfl) ?_
  have c_41 : S40 0 = .inr (11, [.ref (ad 1), .int 0, .int 0, .int (-1), .ref (ad 2), .ref (ad 20), .ref (ad 38), .ref (ad 93), .ref (ad 94), .ref (ad 95), .ref (ad 102), .ref (ad 104), .ref (ad 107), .ref (ad 111), .ref (ad 119)]) := ((o40 0 (by decide)).trans c_3)
  refine xget E hQ 0 (by decide) c_41 rfl 7 (by decide) q523 rfl dX11_image_26 ?_
  refine lv_iload_n hx hb dX11_image_29 rfl (lv_at hl 1 rfl) ?_
  refine lv_iconst (v := 1) hx hb dX11_image_30 (by decide) ?_
  have c_42 : S40 93 = .inl (g.2 3, 3, .inl zf) := ((o40 93 (by decide)).trans (hX 93 (by decide)))
  refine xzast E hs hQ 93 (by decide) c_42 (vp_in_lit 1 3 (by decide)) dX11_image_31 (fun H locs S43 e43 hQ => ?_)
  have u43 : S43 93 = .inl (g.2 3, 3, .inl (upd zf (1 : Int32).toNatClampNeg (vp_nar .boolean 1))) := up_at e43 rfl
  refine lv_iconst (v := 0) hx hb dX11_image_32 (by decide) ?_
  have c_44 : S43 57 = .inr (1, [.int 0, .int 0, .int 0, .ref (ad 58), .ref (ad 60), .ref (ad 61), .int 0, .int 0, .ref (ad 62), .ref (ad 63), .ref (ad 64), .ref (ad 65), .int 0, .ref (ad 70), .ref (ad 71)]) := (up_ne e43 (by decide) v40_57)
  have c_45 : S43 58 = .inr (10, [.int 0, .int 0, .int 0, .int 0, .ref (ad 59)]) := (up_ne e43 (by decide) v40_58)
  have c_46 : S43 59 = .inl (g.2 0, 36, .inl f40_59) := (up_ne e43 (by decide) v40_59)
  have c_47 : S43 60 = .inl (g.2 0, 12, .inl f40_60) := (up_ne e43 (by decide) v40_60)
  have c_48 : S43 61 = .inl (g.2 0, 12, .inl f40_61) := (up_ne e43 (by decide) v40_61)
  have c_49 : S43 62 = .inl (g.2 0, 8, .inl f40_62) := (up_ne e43 (by decide) v40_62)
  have c_50 : S43 63 = .inl (g.2 0, 8, .inl f40_63) := (up_ne e43 (by decide) v40_63)
  have c_51 : S43 64 = .inl (g.2 0, 8, .inl f40_64) := (up_ne e43 (by decide) v40_64)
  have c_52 : S43 65 = .inr (6, [.int 0, .ref (ad 66), .ref (ad 67), .ref (ad 68), .ref (ad 69)]) := (up_ne e43 (by decide) v40_65)
  have c_53 : S43 66 = .inl (g.2 0, 6, .inl f40_66) := (up_ne e43 (by decide) v40_66)
  have c_54 : S43 67 = .inl (g.2 0, 6, .inl f40_67) := (up_ne e43 (by decide) v40_67)
  have c_55 : S43 68 = .inl (g.2 0, 6, .inl f40_68) := (up_ne e43 (by decide) v40_68)
  have c_56 : S43 69 = .inl (g.2 0, 6, .inl f40_69) := (up_ne e43 (by decide) v40_69)
  have c_57 : S43 70 = .inl (g.2 0, 3, .inl f40_70) := (up_ne e43 (by decide) v40_70)
  have c_58 : S43 71 = .inr (0, [.int 0, .ref (ad 72), .ref (ad 73), .ref (ad 74)]) := (up_ne e43 (by decide) v40_71)
  have c_59 : S43 72 = .inl (g.2 0, 40, .inl f40_72) := (up_ne e43 (by decide) v40_72)
  have c_60 : S43 73 = .inl (g.2 0, 40, .inl f40_73) := (up_ne e43 (by decide) v40_73)
  have c_61 : S43 74 = .inl (g.2 0, 40, .inl f40_74) := (up_ne e43 (by decide) v40_74)
  exact xri E hr hlk hQ (by decide) dX11_image_33
set_option maxHeartbeats 4000000 in
set_option maxRecDepth 100000 in
theorem fX11_image_2 (l : Launch) (g : GG) (ad : Nat → Nat) (hD : Dj ad 122) (S : SS) (hX : ∀ i, i < 122 → S i = X0 g ad i) : Met l yX11_image (wG (.code yX11_image cX11_image 2 (some .int))) (Rm 3) (XPre g ad 122 S [.ref (ad 0), .int 2]) (va_Qi (fun r _ => r = ansImage 2) (QB g ad 122) (FA ad 122)) 0 0 (FA ad 122) := by
  refine xmet cX11_image "EbbWreck" (by decide) rfl (Nat.le_of_ble_eq_true rfl) (fun p e s m below meth c E hr hlk hml hQ ls hl => ?_)
  have hx := E.1
  have hb := E.2.1
  have hs : Sp ad 122 (FA ad 122) := Sp.fa hD
  have hl : lv_has ls 2 [(0, .ref (ad 0)), (1, .int 2)] := hl
  refine lv_iload_n hx hb dX11_image_0 rfl (lv_at hl 1 rfl) ?_
  refine lv_if_lt (tgt := 9) hx hb dX11_image_1 (by decide) (fun k_1 => absurd k_1 (by decide)) (fun k_1 => ?_)
  refine lv_iload_n hx hb dX11_image_4 rfl (lv_at hl 1 rfl) ?_
  refine lv_iconst (v := 3) hx hb dX11_image_5 (by decide) ?_
  refine lv_icmp_lt (tgt := 12) hx hb dX11_image_6 (by decide) (fun k_2 => ?_) (fun k_2 => absurd k_2 (by decide))
  refine lv_aload_n hx hb dX11_image_12 rfl (lv_at hl 0 rfl) ?_
  have c_3 : S 0 = .inr (11, [.ref (ad 1), .int 0, .int 0, .int (-1), .ref (ad 2), .ref (ad 20), .ref (ad 38), .ref (ad 93), .ref (ad 94), .ref (ad 95), .ref (ad 102), .ref (ad 104), .ref (ad 107), .ref (ad 111), .ref (ad 119)]) := (hX 0 (by decide))
  refine xget E hQ 0 (by decide) c_3 rfl 6 (by decide) q522 rfl dX11_image_13 ?_
  refine lv_iload_n hx hb dX11_image_16 rfl (lv_at hl 1 rfl) ?_
  have c_4 : S 38 = .inl (g.2 4, 3, .inr (.inr (.inr (.inr (imF ad))))) := (hX 38 (by decide))
  refine xqald E hQ 38 (by decide) c_4 (vp_in_lit 2 3 (by decide)) rfl dX11_image_17 ?_
  refine lv_aload_n hx hb dX11_image_18 rfl (lv_at hl 0 rfl) ?_
  refine xget E hQ 0 (by decide) c_3 rfl 4 (by decide) q520 rfl dX11_image_19 ?_
  have c_5 : S 77 = .inl (g.2 0, 36, .inl zf) := (hX 77 (by decide))
  have c_6 : S 78 = .inl (g.2 0, 12, .inl zf) := (hX 78 (by decide))
  have c_7 : S 79 = .inl (g.2 0, 12, .inl zf) := (hX 79 (by decide))
  have c_8 : S 80 = .inl (g.2 0, 8, .inl zf) := (hX 80 (by decide))
  have c_9 : S 81 = .inl (g.2 0, 8, .inl zf) := (hX 81 (by decide))
  have c_10 : S 82 = .inl (g.2 0, 8, .inl zf) := (hX 82 (by decide))
  have c_11 : S 88 = .inl (g.2 0, 3, .inl zf) := (hX 88 (by decide))
  have c_12 : S 5 = .inl (g.2 0, 12, .inl zf) := (hX 5 (by decide))
  have c_13 : S 6 = .inl (g.2 0, 12, .inl zf) := (hX 6 (by decide))
  have c_14 : S 7 = .inl (g.2 0, 8, .inl zf) := (hX 7 (by decide))
  have c_15 : S 8 = .inl (g.2 0, 8, .inl zf) := (hX 8 (by decide))
  have c_16 : S 9 = .inl (g.2 0, 8, .inl zf) := (hX 9 (by decide))
  have c_17 : S 15 = .inl (g.2 0, 3, .inl zf) := (hX 15 (by decide))
  have c_18 : S 84 = .inl (g.2 0, 6, .inl zf) := (hX 84 (by decide))
  have c_19 : S 85 = .inl (g.2 0, 6, .inl zf) := (hX 85 (by decide))
  have c_20 : S 86 = .inl (g.2 0, 6, .inl zf) := (hX 86 (by decide))
  have c_21 : S 87 = .inl (g.2 0, 6, .inl zf) := (hX 87 (by decide))
  have c_22 : S 11 = .inl (g.2 0, 6, .inl zf) := (hX 11 (by decide))
  have c_23 : S 12 = .inl (g.2 0, 6, .inl zf) := (hX 12 (by decide))
  have c_24 : S 13 = .inl (g.2 0, 6, .inl zf) := (hX 13 (by decide))
  have c_25 : S 14 = .inl (g.2 0, 6, .inl zf) := (hX 14 (by decide))
  have c_26 : S 90 = .inl (g.2 0, 40, .inl zf) := (hX 90 (by decide))
  have c_27 : S 91 = .inl (g.2 0, 40, .inl zf) := (hX 91 (by decide))
  have c_28 : S 92 = .inl (g.2 0, 40, .inl zf) := (hX 92 (by decide))
  have c_29 : S 17 = .inl (g.2 0, 40, .inl zf) := (hX 17 (by decide))
  have c_30 : S 18 = .inl (g.2 0, 40, .inl zf) := (hX 18 (by decide))
  have c_31 : S 19 = .inl (g.2 0, 40, .inl zf) := (hX 19 (by decide))
  have c_32 : S 75 = .inr (1, [.int 0, .int 0, .int 0, .ref (ad 76), .ref (ad 78), .ref (ad 79), .int 0, .int 0, .ref (ad 80), .ref (ad 81), .ref (ad 82), .ref (ad 83), .int 0, .ref (ad 88), .ref (ad 89)]) := (hX 75 (by decide))
  have c_33 : S 2 = .inr (1, [.int 0, .int 0, .int 0, .ref (ad 3), .ref (ad 5), .ref (ad 6), .int 0, .int 0, .ref (ad 7), .ref (ad 8), .ref (ad 9), .ref (ad 10), .int 0, .ref (ad 15), .ref (ad 16)]) := (hX 2 (by decide))
  have c_34 : S 76 = .inr (10, [.int 0, .int 0, .int 0, .int 0, .ref (ad 77)]) := (hX 76 (by decide))
  have c_35 : S 3 = .inr (10, [.int 0, .int 0, .int 0, .int 0, .ref (ad 4)]) := (hX 3 (by decide))
  have c_36 : S 83 = .inr (6, [.int 0, .ref (ad 84), .ref (ad 85), .ref (ad 86), .ref (ad 87)]) := (hX 83 (by decide))
  have c_37 : S 10 = .inr (6, [.int 0, .ref (ad 11), .ref (ad 12), .ref (ad 13), .ref (ad 14)]) := (hX 10 (by decide))
  have c_38 : S 89 = .inr (0, [.int 0, .ref (ad 90), .ref (ad 91), .ref (ad 92)]) := (hX 89 (by decide))
  have c_39 : S 16 = .inr (0, [.int 0, .ref (ad 17), .ref (ad 18), .ref (ad 19)]) := (hX 16 (by decide))
  refine xcVv E hs hQ hml hl.1 75 (cCopy_75_2 l g ad hD S zf zf zf zf zf zf zf zf zf zf zf zf zf zf zf zf zf zf zf zf zf zf zf zf zf zf zf c_32 c_33 c_34 c_35 c_5 c_6 c_7 c_8 c_9 c_10 c_11 c_12 c_13 c_14 c_15 c_16 c_17 c_36 c_37 c_18 c_19 c_20 c_21 c_22 c_23 c_24 c_25 c_38 c_39 c_26 c_27 c_28 c_29 c_30 c_31) mX1_copyFrom q745 (by decide) c_32 rfl rfl ⟨by decide, by decide⟩ ⟨by decide, by decide⟩ (Nat.le_of_ble_eq_true rfl) rfl dX11_image_22 (fun S40 H locs hp40 hQ _ => ?_)
  obtain ⟨o40, v40_75, v40_76, ⟨f40_77, v40_77⟩, ⟨f40_78, v40_78⟩, ⟨f40_79, v40_79⟩, ⟨f40_80, v40_80⟩, ⟨f40_81, v40_81⟩, ⟨f40_82, v40_82⟩, v40_83, ⟨f40_84, v40_84⟩, ⟨f40_85, v40_85⟩, ⟨f40_86, v40_86⟩, ⟨f40_87, v40_87⟩, ⟨f40_88, v40_88⟩, v40_89, ⟨f40_90, v40_90⟩, ⟨f40_91, v40_91⟩, ⟨f40_92, v40_92⟩⟩ := hp40
  refine lv_aload_n hx hb dX11_image_25 rfl (lv_at hl 0 rfl) ?_
  have c_41 : S40 0 = .inr (11, [.ref (ad 1), .int 0, .int 0, .int (-1), .ref (ad 2), .ref (ad 20), .ref (ad 38), .ref (ad 93), .ref (ad 94), .ref (ad 95), .ref (ad 102), .ref (ad 104), .ref (ad 107), .ref (ad 111), .ref (ad 119)]) := ((o40 0 (by decide)).trans c_3)
  refine xget E hQ 0 (by decide) c_41 rfl 7 (by decide) q523 rfl dX11_image_26 ?_
  refine lv_iload_n hx hb dX11_image_29 rfl (lv_at hl 1 rfl) ?_
  refine lv_iconst (v := 1) hx hb dX11_image_30 (by decide) ?_
  have c_42 : S40 93 = .inl (g.2 3, 3, .inl zf) := ((o40 93 (by decide)).trans (hX 93 (by decide)))
  refine xzast E hs hQ 93 (by decide) c_42 (vp_in_lit 2 3 (by decide)) dX11_image_31 (fun H locs S43 e43 hQ => ?_)
  have u43 : S43 93 = .inl (g.2 3, 3, .inl (upd zf (2 : Int32).toNatClampNeg (vp_nar .boolean 1))) := up_at e43 rfl
  refine lv_iconst (v := 0) hx hb dX11_image_32 (by decide) ?_
  have c_44 : S43 75 = .inr (1, [.int 0, .int 0, .int 0, .ref (ad 76), .ref (ad 78), .ref (ad 79), .int 0, .int 0, .ref (ad 80), .ref (ad 81), .ref (ad 82), .ref (ad 83), .int 0, .ref (ad 88), .ref (ad 89)]) := (up_ne e43 (by decide) v40_75)
  have c_45 : S43 76 = .inr (10, [.int 0, .int 0, .int 0, .int 0, .ref (ad 77)]) := (up_ne e43 (by decide) v40_76)
  have c_46 : S43 77 = .inl (g.2 0, 36, .inl f40_77) := (up_ne e43 (by decide) v40_77)
  have c_47 : S43 78 = .inl (g.2 0, 12, .inl f40_78) := (up_ne e43 (by decide) v40_78)
  have c_48 : S43 79 = .inl (g.2 0, 12, .inl f40_79) := (up_ne e43 (by decide) v40_79)
  have c_49 : S43 80 = .inl (g.2 0, 8, .inl f40_80) := (up_ne e43 (by decide) v40_80)
  have c_50 : S43 81 = .inl (g.2 0, 8, .inl f40_81) := (up_ne e43 (by decide) v40_81)
  have c_51 : S43 82 = .inl (g.2 0, 8, .inl f40_82) := (up_ne e43 (by decide) v40_82)
  have c_52 : S43 83 = .inr (6, [.int 0, .ref (ad 84), .ref (ad 85), .ref (ad 86), .ref (ad 87)]) := (up_ne e43 (by decide) v40_83)
  have c_53 : S43 84 = .inl (g.2 0, 6, .inl f40_84) := (up_ne e43 (by decide) v40_84)
  have c_54 : S43 85 = .inl (g.2 0, 6, .inl f40_85) := (up_ne e43 (by decide) v40_85)
  have c_55 : S43 86 = .inl (g.2 0, 6, .inl f40_86) := (up_ne e43 (by decide) v40_86)
  have c_56 : S43 87 = .inl (g.2 0, 6, .inl f40_87) := (up_ne e43 (by decide) v40_87)
  have c_57 : S43 88 = .inl (g.2 0, 3, .inl f40_88) := (up_ne e43 (by decide) v40_88)
  have c_58 : S43 89 = .inr (0, [.int 0, .ref (ad 90), .ref (ad 91), .ref (ad 92)]) := (up_ne e43 (by decide) v40_89)
  have c_59 : S43 90 = .inl (g.2 0, 40, .inl f40_90) := (up_ne e43 (by decide) v40_90)
  have c_60 : S43 91 = .inl (g.2 0, 40, .inl f40_91) := (up_ne e43 (by decide) v40_91)
  have c_61 : S43 92 = .inl (g.2 0, 40, .inl f40_92) := (up_ne e43 (by decide) v40_92)
  exact xri E hr hlk hQ (by decide) dX11_image_33
set_option maxHeartbeats 4000000 in
set_option maxRecDepth 100000 in
theorem fX11_image_o (l : Launch) (g : GG) (ad : Nat → Nat) (hD : Dj ad 122) (S : SS) (a1 : Int32) (ho : a1 < 0 ∨ 3 ≤ a1) (hX : ∀ i, i < 122 → S i = X0 g ad i) : Met l yX11_image (wG (.code yX11_image cX11_image 2 (some .int))) (Rm 3) (XPre g ad 122 S [.ref (ad 0), .int a1]) (va_Qi (fun r _ => r = ansImage a1) (QB g ad 122) (FA ad 122)) 0 0 (FA ad 122) := by
  refine xmet cX11_image "EbbWreck" (by decide) rfl (Nat.le_of_ble_eq_true rfl) (fun p e s m below meth c E hr hlk hml hQ ls hl => ?_)
  have hx := E.1
  have hb := E.2.1
  have hs : Sp ad 122 (FA ad 122) := Sp.fa hD
  have hl : lv_has ls 2 [(0, .ref (ad 0)), (1, .int a1)] := hl
  refine lv_iload_n hx hb dX11_image_0 rfl (lv_at hl 1 rfl) ?_
  refine lv_if_lt (tgt := 9) hx hb dX11_image_1 (by decide) (fun k_1 => ?_) (fun k_1 => ?_)
  · refine lv_bipush (v := (-2)) hx hb dX11_image_9 (by decide) ?_
    exact xri E hr hlk hQ (by try simp only [i32_lt, i32_le, i32_eq, i64_lt, i64_le, w64, l_0, l_1, l_2, l_3, l_4, l_60, l_m1, L_0, L_2, L_3, L_9] at k_1; try simp only [i32_lt, i32_le, i32_eq, i64_lt, i64_le, w64, l_0, l_1, l_2, l_3, l_4, l_60, l_m1, L_0, L_2, L_3, L_9] at ho; unfold ansImage; (repeat' split) <;> first | rfl | omega) dX11_image_11
  · refine lv_iload_n hx hb dX11_image_4 rfl (lv_at hl 1 rfl) ?_
    refine lv_iconst (v := 3) hx hb dX11_image_5 (by decide) ?_
    refine lv_icmp_lt (tgt := 12) hx hb dX11_image_6 (by decide) (fun k_2 => absurd k_2 (fun h => ho.elim k_1 (fun h2 => Int32.not_le.mpr h h2))) (fun k_2 => ?_)
    refine lv_bipush (v := (-2)) hx hb dX11_image_9 (by decide) ?_
    exact xri E hr hlk hQ (by try simp only [i32_lt, i32_le, i32_eq, i64_lt, i64_le, w64, l_0, l_1, l_2, l_3, l_4, l_60, l_m1, L_0, L_2, L_3, L_9] at k_1; try simp only [i32_lt, i32_le, i32_eq, i64_lt, i64_le, w64, l_0, l_1, l_2, l_3, l_4, l_60, l_m1, L_0, L_2, L_3, L_9] at ho; unfold ansImage; (repeat' split) <;> first | rfl | omega) dX11_image_11
set_option maxHeartbeats 4000000 in
set_option maxRecDepth 100000 in
theorem lay_0 (l : Launch) (g : GG) (ad : Nat → Nat) (hD : Dj ad 122) (S : SS) (a2 : Int32) (a3 : Int32) (f117 : Nat → Int32) (f118 : Nat → Int32) (fj : Nat → Int64) (h111 : S 111 = .inr (8, [.ref (ad 112), .ref (ad 117), .ref (ad 118)])) (h112 : S 112 = .inl (g.2 5, 4, .inr (.inr (.inr (.inr (nuF ad)))))) (h117 : S 117 = .inl (g.2 0, 4, .inl f117)) (h118 : S 118 = .inl (g.2 0, 4, .inl f118)) (h113 : S 113 = .inl (g.2 2, 60, .inr (.inl fj))) : Met l yX8_lay (wG (.code yX8_lay cX8_lay 4 none)) (Rm 1) (XPre g ad 122 S [.ref (ad 111), .int 0, .int a2, .int a3]) (va_Qv (fun S' => (∀ j, j ∉ ([117, 118, 113] : List Nat) → S' j = S j) ∧ (∃ f : Nat → Int32, S' 117 = .inl (g.2 0, 4, .inl f)) ∧ (∃ f : Nat → Int32, S' 118 = .inl (g.2 0, 4, .inl f)) ∧ (∃ f : Nat → Int64, S' 113 = .inl (g.2 2, 60, .inr (.inl f)))) (QB g ad 122) (FA ad 122)) 0 0 (FA ad 122) := by
  refine xmet cX8_lay "EbbWreck$Slots" (by decide) rfl (Nat.le_of_ble_eq_true rfl) (fun p e s m below meth c E hr hlk hml hQ ls hl => ?_)
  have hx := E.1
  have hb := E.2.1
  have hs : Sp ad 122 (FA ad 122) := Sp.fa hD
  have hl : lv_has ls 4 [(0, .ref (ad 111)), (1, .int 0), (2, .int a2), (3, .int a3)] := hl
  refine lv_aload_n hx hb dX8_lay_0 rfl (lv_at hl 0 rfl) ?_
  refine xget E hQ 111 (by decide) h111 rfl 1 (by decide) q481 rfl dX8_lay_1 ?_
  refine lv_iload_n hx hb dX8_lay_4 rfl (lv_at hl 1 rfl) ?_
  refine lv_iload_n hx hb dX8_lay_5 rfl (lv_at hl 2 rfl) ?_
  refine xiast E hs hQ 117 (by decide) h117 (vp_in_lit 0 4 (by decide)) dX8_lay_6 (fun H locs S1 e1 hQ => ?_)
  have u1 : S1 117 = .inl (g.2 0, 4, .inl (upd f117 (0 : Int32).toNatClampNeg a2)) := up_at e1 rfl
  refine lv_aload_n hx hb dX8_lay_7 rfl (lv_at hl 0 rfl) ?_
  have c_2 : S1 111 = .inr (8, [.ref (ad 112), .ref (ad 117), .ref (ad 118)]) := (up_ne e1 (by decide) h111)
  refine xget E hQ 111 (by decide) c_2 rfl 2 (by decide) q483 rfl dX8_lay_8 ?_
  refine lv_iload_n hx hb dX8_lay_11 rfl (lv_at hl 1 rfl) ?_
  refine lv_iload_n hx hb dX8_lay_12 rfl (lv_at hl 3 rfl) ?_
  have c_3 : S1 118 = .inl (g.2 0, 4, .inl f118) := (up_ne e1 (by decide) h118)
  refine xiast E hs hQ 118 (by decide) c_3 (vp_in_lit 0 4 (by decide)) dX8_lay_13 (fun H locs S4 e4 hQ => ?_)
  have u4 : S4 118 = .inl (g.2 0, 4, .inl (upd f118 (0 : Int32).toNatClampNeg a3)) := up_at e4 rfl
  refine lv_aload_n hx hb dX8_lay_14 rfl (lv_at hl 0 rfl) ?_
  have c_5 : S4 111 = .inr (8, [.ref (ad 112), .ref (ad 117), .ref (ad 118)]) := (up_ne e4 (by decide) c_2)
  refine xget E hQ 111 (by decide) c_5 rfl 0 (by decide) q478 rfl dX8_lay_15 ?_
  refine lv_iload_n hx hb dX8_lay_18 rfl (lv_at hl 1 rfl) ?_
  have c_6 : S4 112 = .inl (g.2 5, 4, .inr (.inr (.inr (.inr (nuF ad))))) := (up_ne e4 (by decide) (up_ne e1 (by decide) h112))
  refine xaald E hQ 112 (by decide) c_6 (vp_in_lit 0 4 (by decide)) rfl dX8_lay_19 ?_
  refine lv_lconst (v := 0) hx hb dX8_lay_20 (by decide) ?_
  have c_7 : S4 113 = .inl (g.2 2, 60, .inr (.inl fj)) := (up_ne e4 (by decide) (up_ne e1 (by decide) h113))
  refine xcSv E hs hQ hml hl.1 (uFillL l g ad _ hD S4 113 (by decide) 60 (by decide) fj 0 c_7) mJ7_fill_d0a16 q1438 rfl ⟨by decide, by decide⟩ ⟨by decide, by decide⟩ (Nat.le_of_ble_eq_true rfl) rfl dX8_lay_21 (fun S8 H locs hp8 hQ => ?_)
  have e8 := hp8
  have u8 : S8 113 = .inl (g.2 2, 60, .inr (.inl (fillL 0 60 fj))) := up_at e8 rfl
  have c_9 : S8 117 = .inl (g.2 0, 4, .inl (upd f117 (0 : Int32).toNatClampNeg a2)) := (up_ne e8 (by decide) (up_ne e4 (by decide) u1))
  have c_10 : S8 118 = .inl (g.2 0, 4, .inl (upd f118 (0 : Int32).toNatClampNeg a3)) := (up_ne e8 (by decide) u4)
  exact xrv E hr hlk hQ (⟨fun j hj => (up_ne e8 (fun h => hj (by subst h; decide)) (up_ne e4 (fun h => hj (by subst h; decide)) (up_ne e1 (fun h => hj (by subst h; decide)) rfl))), ⟨_, c_9⟩, ⟨_, c_10⟩, ⟨_, u8⟩⟩) dX8_lay_24
set_option maxHeartbeats 4000000 in
set_option maxRecDepth 100000 in
theorem lay_1 (l : Launch) (g : GG) (ad : Nat → Nat) (hD : Dj ad 122) (S : SS) (a2 : Int32) (a3 : Int32) (f117 : Nat → Int32) (f118 : Nat → Int32) (fj : Nat → Int64) (h111 : S 111 = .inr (8, [.ref (ad 112), .ref (ad 117), .ref (ad 118)])) (h112 : S 112 = .inl (g.2 5, 4, .inr (.inr (.inr (.inr (nuF ad)))))) (h117 : S 117 = .inl (g.2 0, 4, .inl f117)) (h118 : S 118 = .inl (g.2 0, 4, .inl f118)) (h114 : S 114 = .inl (g.2 2, 60, .inr (.inl fj))) : Met l yX8_lay (wG (.code yX8_lay cX8_lay 4 none)) (Rm 1) (XPre g ad 122 S [.ref (ad 111), .int 1, .int a2, .int a3]) (va_Qv (fun S' => (∀ j, j ∉ ([117, 118, 114] : List Nat) → S' j = S j) ∧ (∃ f : Nat → Int32, S' 117 = .inl (g.2 0, 4, .inl f)) ∧ (∃ f : Nat → Int32, S' 118 = .inl (g.2 0, 4, .inl f)) ∧ (∃ f : Nat → Int64, S' 114 = .inl (g.2 2, 60, .inr (.inl f)))) (QB g ad 122) (FA ad 122)) 0 0 (FA ad 122) := by
  refine xmet cX8_lay "EbbWreck$Slots" (by decide) rfl (Nat.le_of_ble_eq_true rfl) (fun p e s m below meth c E hr hlk hml hQ ls hl => ?_)
  have hx := E.1
  have hb := E.2.1
  have hs : Sp ad 122 (FA ad 122) := Sp.fa hD
  have hl : lv_has ls 4 [(0, .ref (ad 111)), (1, .int 1), (2, .int a2), (3, .int a3)] := hl
  refine lv_aload_n hx hb dX8_lay_0 rfl (lv_at hl 0 rfl) ?_
  refine xget E hQ 111 (by decide) h111 rfl 1 (by decide) q481 rfl dX8_lay_1 ?_
  refine lv_iload_n hx hb dX8_lay_4 rfl (lv_at hl 1 rfl) ?_
  refine lv_iload_n hx hb dX8_lay_5 rfl (lv_at hl 2 rfl) ?_
  refine xiast E hs hQ 117 (by decide) h117 (vp_in_lit 1 4 (by decide)) dX8_lay_6 (fun H locs S1 e1 hQ => ?_)
  have u1 : S1 117 = .inl (g.2 0, 4, .inl (upd f117 (1 : Int32).toNatClampNeg a2)) := up_at e1 rfl
  refine lv_aload_n hx hb dX8_lay_7 rfl (lv_at hl 0 rfl) ?_
  have c_2 : S1 111 = .inr (8, [.ref (ad 112), .ref (ad 117), .ref (ad 118)]) := (up_ne e1 (by decide) h111)
  refine xget E hQ 111 (by decide) c_2 rfl 2 (by decide) q483 rfl dX8_lay_8 ?_
  refine lv_iload_n hx hb dX8_lay_11 rfl (lv_at hl 1 rfl) ?_
  refine lv_iload_n hx hb dX8_lay_12 rfl (lv_at hl 3 rfl) ?_
  have c_3 : S1 118 = .inl (g.2 0, 4, .inl f118) := (up_ne e1 (by decide) h118)
  refine xiast E hs hQ 118 (by decide) c_3 (vp_in_lit 1 4 (by decide)) dX8_lay_13 (fun H locs S4 e4 hQ => ?_)
  have u4 : S4 118 = .inl (g.2 0, 4, .inl (upd f118 (1 : Int32).toNatClampNeg a3)) := up_at e4 rfl
  refine lv_aload_n hx hb dX8_lay_14 rfl (lv_at hl 0 rfl) ?_
  have c_5 : S4 111 = .inr (8, [.ref (ad 112), .ref (ad 117), .ref (ad 118)]) := (up_ne e4 (by decide) c_2)
  refine xget E hQ 111 (by decide) c_5 rfl 0 (by decide) q478 rfl dX8_lay_15 ?_
  refine lv_iload_n hx hb dX8_lay_18 rfl (lv_at hl 1 rfl) ?_
  have c_6 : S4 112 = .inl (g.2 5, 4, .inr (.inr (.inr (.inr (nuF ad))))) := (up_ne e4 (by decide) (up_ne e1 (by decide) h112))
  refine xaald E hQ 112 (by decide) c_6 (vp_in_lit 1 4 (by decide)) rfl dX8_lay_19 ?_
  refine lv_lconst (v := 0) hx hb dX8_lay_20 (by decide) ?_
  have c_7 : S4 114 = .inl (g.2 2, 60, .inr (.inl fj)) := (up_ne e4 (by decide) (up_ne e1 (by decide) h114))
  refine xcSv E hs hQ hml hl.1 (uFillL l g ad _ hD S4 114 (by decide) 60 (by decide) fj 0 c_7) mJ7_fill_d0a16 q1438 rfl ⟨by decide, by decide⟩ ⟨by decide, by decide⟩ (Nat.le_of_ble_eq_true rfl) rfl dX8_lay_21 (fun S8 H locs hp8 hQ => ?_)
  have e8 := hp8
  have u8 : S8 114 = .inl (g.2 2, 60, .inr (.inl (fillL 0 60 fj))) := up_at e8 rfl
  have c_9 : S8 117 = .inl (g.2 0, 4, .inl (upd f117 (1 : Int32).toNatClampNeg a2)) := (up_ne e8 (by decide) (up_ne e4 (by decide) u1))
  have c_10 : S8 118 = .inl (g.2 0, 4, .inl (upd f118 (1 : Int32).toNatClampNeg a3)) := (up_ne e8 (by decide) u4)
  exact xrv E hr hlk hQ (⟨fun j hj => (up_ne e8 (fun h => hj (by subst h; decide)) (up_ne e4 (fun h => hj (by subst h; decide)) (up_ne e1 (fun h => hj (by subst h; decide)) rfl))), ⟨_, c_9⟩, ⟨_, c_10⟩, ⟨_, u8⟩⟩) dX8_lay_24
set_option maxHeartbeats 4000000 in
set_option maxRecDepth 100000 in
theorem lay_2 (l : Launch) (g : GG) (ad : Nat → Nat) (hD : Dj ad 122) (S : SS) (a2 : Int32) (a3 : Int32) (f117 : Nat → Int32) (f118 : Nat → Int32) (fj : Nat → Int64) (h111 : S 111 = .inr (8, [.ref (ad 112), .ref (ad 117), .ref (ad 118)])) (h112 : S 112 = .inl (g.2 5, 4, .inr (.inr (.inr (.inr (nuF ad)))))) (h117 : S 117 = .inl (g.2 0, 4, .inl f117)) (h118 : S 118 = .inl (g.2 0, 4, .inl f118)) (h115 : S 115 = .inl (g.2 2, 60, .inr (.inl fj))) : Met l yX8_lay (wG (.code yX8_lay cX8_lay 4 none)) (Rm 1) (XPre g ad 122 S [.ref (ad 111), .int 2, .int a2, .int a3]) (va_Qv (fun S' => (∀ j, j ∉ ([117, 118, 115] : List Nat) → S' j = S j) ∧ (∃ f : Nat → Int32, S' 117 = .inl (g.2 0, 4, .inl f)) ∧ (∃ f : Nat → Int32, S' 118 = .inl (g.2 0, 4, .inl f)) ∧ (∃ f : Nat → Int64, S' 115 = .inl (g.2 2, 60, .inr (.inl f)))) (QB g ad 122) (FA ad 122)) 0 0 (FA ad 122) := by
  refine xmet cX8_lay "EbbWreck$Slots" (by decide) rfl (Nat.le_of_ble_eq_true rfl) (fun p e s m below meth c E hr hlk hml hQ ls hl => ?_)
  have hx := E.1
  have hb := E.2.1
  have hs : Sp ad 122 (FA ad 122) := Sp.fa hD
  have hl : lv_has ls 4 [(0, .ref (ad 111)), (1, .int 2), (2, .int a2), (3, .int a3)] := hl
  refine lv_aload_n hx hb dX8_lay_0 rfl (lv_at hl 0 rfl) ?_
  refine xget E hQ 111 (by decide) h111 rfl 1 (by decide) q481 rfl dX8_lay_1 ?_
  refine lv_iload_n hx hb dX8_lay_4 rfl (lv_at hl 1 rfl) ?_
  refine lv_iload_n hx hb dX8_lay_5 rfl (lv_at hl 2 rfl) ?_
  refine xiast E hs hQ 117 (by decide) h117 (vp_in_lit 2 4 (by decide)) dX8_lay_6 (fun H locs S1 e1 hQ => ?_)
  have u1 : S1 117 = .inl (g.2 0, 4, .inl (upd f117 (2 : Int32).toNatClampNeg a2)) := up_at e1 rfl
  refine lv_aload_n hx hb dX8_lay_7 rfl (lv_at hl 0 rfl) ?_
  have c_2 : S1 111 = .inr (8, [.ref (ad 112), .ref (ad 117), .ref (ad 118)]) := (up_ne e1 (by decide) h111)
  refine xget E hQ 111 (by decide) c_2 rfl 2 (by decide) q483 rfl dX8_lay_8 ?_
  refine lv_iload_n hx hb dX8_lay_11 rfl (lv_at hl 1 rfl) ?_
  refine lv_iload_n hx hb dX8_lay_12 rfl (lv_at hl 3 rfl) ?_
  have c_3 : S1 118 = .inl (g.2 0, 4, .inl f118) := (up_ne e1 (by decide) h118)
  refine xiast E hs hQ 118 (by decide) c_3 (vp_in_lit 2 4 (by decide)) dX8_lay_13 (fun H locs S4 e4 hQ => ?_)
  have u4 : S4 118 = .inl (g.2 0, 4, .inl (upd f118 (2 : Int32).toNatClampNeg a3)) := up_at e4 rfl
  refine lv_aload_n hx hb dX8_lay_14 rfl (lv_at hl 0 rfl) ?_
  have c_5 : S4 111 = .inr (8, [.ref (ad 112), .ref (ad 117), .ref (ad 118)]) := (up_ne e4 (by decide) c_2)
  refine xget E hQ 111 (by decide) c_5 rfl 0 (by decide) q478 rfl dX8_lay_15 ?_
  refine lv_iload_n hx hb dX8_lay_18 rfl (lv_at hl 1 rfl) ?_
  have c_6 : S4 112 = .inl (g.2 5, 4, .inr (.inr (.inr (.inr (nuF ad))))) := (up_ne e4 (by decide) (up_ne e1 (by decide) h112))
  refine xaald E hQ 112 (by decide) c_6 (vp_in_lit 2 4 (by decide)) rfl dX8_lay_19 ?_
  refine lv_lconst (v := 0) hx hb dX8_lay_20 (by decide) ?_
  have c_7 : S4 115 = .inl (g.2 2, 60, .inr (.inl fj)) := (up_ne e4 (by decide) (up_ne e1 (by decide) h115))
  refine xcSv E hs hQ hml hl.1 (uFillL l g ad _ hD S4 115 (by decide) 60 (by decide) fj 0 c_7) mJ7_fill_d0a16 q1438 rfl ⟨by decide, by decide⟩ ⟨by decide, by decide⟩ (Nat.le_of_ble_eq_true rfl) rfl dX8_lay_21 (fun S8 H locs hp8 hQ => ?_)
  have e8 := hp8
  have u8 : S8 115 = .inl (g.2 2, 60, .inr (.inl (fillL 0 60 fj))) := up_at e8 rfl
  have c_9 : S8 117 = .inl (g.2 0, 4, .inl (upd f117 (2 : Int32).toNatClampNeg a2)) := (up_ne e8 (by decide) (up_ne e4 (by decide) u1))
  have c_10 : S8 118 = .inl (g.2 0, 4, .inl (upd f118 (2 : Int32).toNatClampNeg a3)) := (up_ne e8 (by decide) u4)
  exact xrv E hr hlk hQ (⟨fun j hj => (up_ne e8 (fun h => hj (by subst h; decide)) (up_ne e4 (fun h => hj (by subst h; decide)) (up_ne e1 (fun h => hj (by subst h; decide)) rfl))), ⟨_, c_9⟩, ⟨_, c_10⟩, ⟨_, u8⟩⟩) dX8_lay_24
set_option maxHeartbeats 4000000 in
set_option maxRecDepth 100000 in
theorem lay_3 (l : Launch) (g : GG) (ad : Nat → Nat) (hD : Dj ad 122) (S : SS) (a2 : Int32) (a3 : Int32) (f117 : Nat → Int32) (f118 : Nat → Int32) (fj : Nat → Int64) (h111 : S 111 = .inr (8, [.ref (ad 112), .ref (ad 117), .ref (ad 118)])) (h112 : S 112 = .inl (g.2 5, 4, .inr (.inr (.inr (.inr (nuF ad)))))) (h117 : S 117 = .inl (g.2 0, 4, .inl f117)) (h118 : S 118 = .inl (g.2 0, 4, .inl f118)) (h116 : S 116 = .inl (g.2 2, 60, .inr (.inl fj))) : Met l yX8_lay (wG (.code yX8_lay cX8_lay 4 none)) (Rm 1) (XPre g ad 122 S [.ref (ad 111), .int 3, .int a2, .int a3]) (va_Qv (fun S' => (∀ j, j ∉ ([117, 118, 116] : List Nat) → S' j = S j) ∧ (∃ f : Nat → Int32, S' 117 = .inl (g.2 0, 4, .inl f)) ∧ (∃ f : Nat → Int32, S' 118 = .inl (g.2 0, 4, .inl f)) ∧ (∃ f : Nat → Int64, S' 116 = .inl (g.2 2, 60, .inr (.inl f)))) (QB g ad 122) (FA ad 122)) 0 0 (FA ad 122) := by
  refine xmet cX8_lay "EbbWreck$Slots" (by decide) rfl (Nat.le_of_ble_eq_true rfl) (fun p e s m below meth c E hr hlk hml hQ ls hl => ?_)
  have hx := E.1
  have hb := E.2.1
  have hs : Sp ad 122 (FA ad 122) := Sp.fa hD
  have hl : lv_has ls 4 [(0, .ref (ad 111)), (1, .int 3), (2, .int a2), (3, .int a3)] := hl
  refine lv_aload_n hx hb dX8_lay_0 rfl (lv_at hl 0 rfl) ?_
  refine xget E hQ 111 (by decide) h111 rfl 1 (by decide) q481 rfl dX8_lay_1 ?_
  refine lv_iload_n hx hb dX8_lay_4 rfl (lv_at hl 1 rfl) ?_
  refine lv_iload_n hx hb dX8_lay_5 rfl (lv_at hl 2 rfl) ?_
  refine xiast E hs hQ 117 (by decide) h117 (vp_in_lit 3 4 (by decide)) dX8_lay_6 (fun H locs S1 e1 hQ => ?_)
  have u1 : S1 117 = .inl (g.2 0, 4, .inl (upd f117 (3 : Int32).toNatClampNeg a2)) := up_at e1 rfl
  refine lv_aload_n hx hb dX8_lay_7 rfl (lv_at hl 0 rfl) ?_
  have c_2 : S1 111 = .inr (8, [.ref (ad 112), .ref (ad 117), .ref (ad 118)]) := (up_ne e1 (by decide) h111)
  refine xget E hQ 111 (by decide) c_2 rfl 2 (by decide) q483 rfl dX8_lay_8 ?_
  refine lv_iload_n hx hb dX8_lay_11 rfl (lv_at hl 1 rfl) ?_
  refine lv_iload_n hx hb dX8_lay_12 rfl (lv_at hl 3 rfl) ?_
  have c_3 : S1 118 = .inl (g.2 0, 4, .inl f118) := (up_ne e1 (by decide) h118)
  refine xiast E hs hQ 118 (by decide) c_3 (vp_in_lit 3 4 (by decide)) dX8_lay_13 (fun H locs S4 e4 hQ => ?_)
  have u4 : S4 118 = .inl (g.2 0, 4, .inl (upd f118 (3 : Int32).toNatClampNeg a3)) := up_at e4 rfl
  refine lv_aload_n hx hb dX8_lay_14 rfl (lv_at hl 0 rfl) ?_
  have c_5 : S4 111 = .inr (8, [.ref (ad 112), .ref (ad 117), .ref (ad 118)]) := (up_ne e4 (by decide) c_2)
  refine xget E hQ 111 (by decide) c_5 rfl 0 (by decide) q478 rfl dX8_lay_15 ?_
  refine lv_iload_n hx hb dX8_lay_18 rfl (lv_at hl 1 rfl) ?_
  have c_6 : S4 112 = .inl (g.2 5, 4, .inr (.inr (.inr (.inr (nuF ad))))) := (up_ne e4 (by decide) (up_ne e1 (by decide) h112))
  refine xaald E hQ 112 (by decide) c_6 (vp_in_lit 3 4 (by decide)) rfl dX8_lay_19 ?_
  refine lv_lconst (v := 0) hx hb dX8_lay_20 (by decide) ?_
  have c_7 : S4 116 = .inl (g.2 2, 60, .inr (.inl fj)) := (up_ne e4 (by decide) (up_ne e1 (by decide) h116))
  refine xcSv E hs hQ hml hl.1 (uFillL l g ad _ hD S4 116 (by decide) 60 (by decide) fj 0 c_7) mJ7_fill_d0a16 q1438 rfl ⟨by decide, by decide⟩ ⟨by decide, by decide⟩ (Nat.le_of_ble_eq_true rfl) rfl dX8_lay_21 (fun S8 H locs hp8 hQ => ?_)
  have e8 := hp8
  have u8 : S8 116 = .inl (g.2 2, 60, .inr (.inl (fillL 0 60 fj))) := up_at e8 rfl
  have c_9 : S8 117 = .inl (g.2 0, 4, .inl (upd f117 (3 : Int32).toNatClampNeg a2)) := (up_ne e8 (by decide) (up_ne e4 (by decide) u1))
  have c_10 : S8 118 = .inl (g.2 0, 4, .inl (upd f118 (3 : Int32).toNatClampNeg a3)) := (up_ne e8 (by decide) u4)
  exact xrv E hr hlk hQ (⟨fun j hj => (up_ne e8 (fun h => hj (by subst h; decide)) (up_ne e4 (fun h => hj (by subst h; decide)) (up_ne e1 (fun h => hj (by subst h; decide)) rfl))), ⟨_, c_9⟩, ⟨_, c_10⟩, ⟨_, u8⟩⟩) dX8_lay_24
set_option maxHeartbeats 4000000 in
set_option maxRecDepth 100000 in
theorem fX11_row_0 (l : Launch) (g : GG) (ad : Nat → Nat) (hD : Dj ad 122) (S : SS) (a2 : Int32) (a3 : Int32) (hX : ∀ i, i < 122 → S i = X0 g ad i) : Met l yX11_row (wG (.code yX11_row cX11_row 4 (some .int))) (Rm 2) (XPre g ad 122 S [.ref (ad 0), .int 0, .int a2, .int a3]) (va_Qi (fun r _ => r = ansRow 0 a2 a3) (QB g ad 122) (FA ad 122)) 0 0 (FA ad 122) := by
  refine xmet cX11_row "EbbWreck" (by decide) rfl (Nat.le_of_ble_eq_true rfl) (fun p e s m below meth c E hr hlk hml hQ ls hl => ?_)
  have hx := E.1
  have hb := E.2.1
  have hs : Sp ad 122 (FA ad 122) := Sp.fa hD
  have hl : lv_has ls 4 [(0, .ref (ad 0)), (1, .int 0), (2, .int a2), (3, .int a3)] := hl
  refine lv_iload_n hx hb dX11_row_0 rfl (lv_at hl 1 rfl) ?_
  refine xcSi E hs hQ hml hl.1 (uX8_isSlot l g ad _ hD S 0) mX8_isSlot q1433 rfl ⟨by decide, by decide⟩ ⟨by decide, by decide⟩ (Nat.le_of_ble_eq_true rfl) rfl dX11_row_1 (fun r1 S1 H locs hp1 hQ => ?_)
  obtain ⟨rfl, hp1⟩ := hp1
  have hz1 : r1 = 1 := by
    rcases hp1 with ⟨h, _⟩ | ⟨_, h⟩
    · exact h
    · exact absurd h (by decide)
  subst hz1
  refine lv_if_eq (tgt := 22) hx hb dX11_row_4 (by decide) (fun k_2 => absurd k_2 (by decide)) (fun k_2 => ?_)
  refine lv_iload_n hx hb dX11_row_7 rfl (lv_at hl 2 rfl) ?_
  refine lv_if_lt (tgt := 22) hx hb dX11_row_8 (by decide) (fun k_3 => ?_) (fun k_3 => ?_)
  · refine lv_bipush (v := (-2)) hx hb dX11_row_22 (by decide) ?_
    exact xri E hr hlk hQ (by try simp only [i32_lt, i32_le, i32_eq, i64_lt, i64_le, w64, l_0, l_1, l_2, l_3, l_4, l_60, l_m1, L_0, L_2, L_3, L_9] at k_3; unfold ansRow; try simp only [l_0, l_1, l_2, l_3]; (repeat' split) <;> first | rfl | omega) dX11_row_24
  · refine lv_iload_n hx hb dX11_row_11 rfl (lv_at hl 2 rfl) ?_
    refine lv_iconst (v := 4) hx hb dX11_row_12 (by decide) ?_
    refine lv_icmp_ge (tgt := 22) hx hb dX11_row_13 (by decide) (fun k_4 => ?_) (fun k_4 => ?_)
    · refine lv_bipush (v := (-2)) hx hb dX11_row_22 (by decide) ?_
      exact xri E hr hlk hQ (by try simp only [i32_lt, i32_le, i32_eq, i64_lt, i64_le, w64, l_0, l_1, l_2, l_3, l_4, l_60, l_m1, L_0, L_2, L_3, L_9] at k_3; try simp only [i32_lt, i32_le, i32_eq, i64_lt, i64_le, w64, l_0, l_1, l_2, l_3, l_4, l_60, l_m1, L_0, L_2, L_3, L_9] at k_4; unfold ansRow; try simp only [l_0, l_1, l_2, l_3]; (repeat' split) <;> first | rfl | omega) dX11_row_24
    · refine lv_iload_n hx hb dX11_row_16 rfl (lv_at hl 3 rfl) ?_
      refine lv_bipush (v := 60) hx hb dX11_row_17 (by decide) ?_
      refine lv_icmp_le (tgt := 25) hx hb dX11_row_19 (by decide) (fun k_5 => ?_) (fun k_5 => ?_)
      · refine lv_iload_n hx hb dX11_row_25 rfl (lv_at hl 3 rfl) ?_
        refine lv_if_ge (tgt := 32) hx hb dX11_row_26 (by decide) (fun k_6 => ?_) (fun k_6 => ?_)
        · refine lv_aload_n hx hb dX11_row_32 rfl (lv_at hl 0 rfl) ?_
          have c_7 : S 0 = .inr (11, [.ref (ad 1), .int 0, .int 0, .int (-1), .ref (ad 2), .ref (ad 20), .ref (ad 38), .ref (ad 93), .ref (ad 94), .ref (ad 95), .ref (ad 102), .ref (ad 104), .ref (ad 107), .ref (ad 111), .ref (ad 119)]) := (hX 0 (by decide))
          refine xget E hQ 0 (by decide) c_7 rfl 13 (by decide) q529 rfl dX11_row_33 ?_
          refine lv_iload_n hx hb dX11_row_36 rfl (lv_at hl 1 rfl) ?_
          refine lv_iload_n hx hb dX11_row_37 rfl (lv_at hl 2 rfl) ?_
          refine lv_iload_n hx hb dX11_row_38 rfl (lv_at hl 3 rfl) ?_
          have c_8 : S 117 = .inl (g.2 0, 4, .inl zf) := (hX 117 (by decide))
          have c_9 : S 118 = .inl (g.2 0, 4, .inl szF) := (hX 118 (by decide))
          have c_10 : S 113 = .inl (g.2 2, 60, .inr (.inl zfL)) := (hX 113 (by decide))
          have c_11 : S 111 = .inr (8, [.ref (ad 112), .ref (ad 117), .ref (ad 118)]) := (hX 111 (by decide))
          have c_12 : S 112 = .inl (g.2 5, 4, .inr (.inr (.inr (.inr (nuF ad))))) := (hX 112 (by decide))
          refine xcVv E hs hQ hml hl.1 111 (lay_0 l g ad hD S a2 a3 zf szF zfL c_11 c_12 c_8 c_9 c_10) mX8_lay q1434 (by decide) c_11 rfl rfl ⟨by decide, by decide⟩ ⟨by decide, by decide⟩ (Nat.le_of_ble_eq_true rfl) rfl dX11_row_39 (fun S13 H locs hp13 hQ _ => ?_)
          obtain ⟨o13, ⟨f13_117, v13_117⟩, ⟨f13_118, v13_118⟩, ⟨f13_113, v13_113⟩⟩ := hp13
          refine lv_iconst (v := 0) hx hb dX11_row_42 (by decide) ?_
          exact xri E hr hlk hQ (by try simp only [i32_lt, i32_le, i32_eq, i64_lt, i64_le, w64, l_0, l_1, l_2, l_3, l_4, l_60, l_m1, L_0, L_2, L_3, L_9] at k_3; try simp only [i32_lt, i32_le, i32_eq, i64_lt, i64_le, w64, l_0, l_1, l_2, l_3, l_4, l_60, l_m1, L_0, L_2, L_3, L_9] at k_4; try simp only [i32_lt, i32_le, i32_eq, i64_lt, i64_le, w64, l_0, l_1, l_2, l_3, l_4, l_60, l_m1, L_0, L_2, L_3, L_9] at k_5; try simp only [i32_lt, i32_le, i32_eq, i64_lt, i64_le, w64, l_0, l_1, l_2, l_3, l_4, l_60, l_m1, L_0, L_2, L_3, L_9] at k_6; unfold ansRow; try simp only [l_0, l_1, l_2, l_3]; (repeat' split) <;> first | rfl | omega) dX11_row_43
        · refine lv_bipush (v := (-3)) hx hb dX11_row_29 (by decide) ?_
          exact xri E hr hlk hQ (by try simp only [i32_lt, i32_le, i32_eq, i64_lt, i64_le, w64, l_0, l_1, l_2, l_3, l_4, l_60, l_m1, L_0, L_2, L_3, L_9] at k_3; try simp only [i32_lt, i32_le, i32_eq, i64_lt, i64_le, w64, l_0, l_1, l_2, l_3, l_4, l_60, l_m1, L_0, L_2, L_3, L_9] at k_4; try simp only [i32_lt, i32_le, i32_eq, i64_lt, i64_le, w64, l_0, l_1, l_2, l_3, l_4, l_60, l_m1, L_0, L_2, L_3, L_9] at k_5; try simp only [i32_lt, i32_le, i32_eq, i64_lt, i64_le, w64, l_0, l_1, l_2, l_3, l_4, l_60, l_m1, L_0, L_2, L_3, L_9] at k_6; unfold ansRow; try simp only [l_0, l_1, l_2, l_3]; (repeat' split) <;> first | rfl | omega) dX11_row_31
      · refine lv_bipush (v := (-2)) hx hb dX11_row_22 (by decide) ?_
        exact xri E hr hlk hQ (by try simp only [i32_lt, i32_le, i32_eq, i64_lt, i64_le, w64, l_0, l_1, l_2, l_3, l_4, l_60, l_m1, L_0, L_2, L_3, L_9] at k_3; try simp only [i32_lt, i32_le, i32_eq, i64_lt, i64_le, w64, l_0, l_1, l_2, l_3, l_4, l_60, l_m1, L_0, L_2, L_3, L_9] at k_4; try simp only [i32_lt, i32_le, i32_eq, i64_lt, i64_le, w64, l_0, l_1, l_2, l_3, l_4, l_60, l_m1, L_0, L_2, L_3, L_9] at k_5; unfold ansRow; try simp only [l_0, l_1, l_2, l_3]; (repeat' split) <;> first | rfl | omega) dX11_row_24
set_option maxHeartbeats 4000000 in
set_option maxRecDepth 100000 in
theorem fX11_row_1 (l : Launch) (g : GG) (ad : Nat → Nat) (hD : Dj ad 122) (S : SS) (a2 : Int32) (a3 : Int32) (hX : ∀ i, i < 122 → S i = X0 g ad i) : Met l yX11_row (wG (.code yX11_row cX11_row 4 (some .int))) (Rm 2) (XPre g ad 122 S [.ref (ad 0), .int 1, .int a2, .int a3]) (va_Qi (fun r _ => r = ansRow 1 a2 a3) (QB g ad 122) (FA ad 122)) 0 0 (FA ad 122) := by
  refine xmet cX11_row "EbbWreck" (by decide) rfl (Nat.le_of_ble_eq_true rfl) (fun p e s m below meth c E hr hlk hml hQ ls hl => ?_)
  have hx := E.1
  have hb := E.2.1
  have hs : Sp ad 122 (FA ad 122) := Sp.fa hD
  have hl : lv_has ls 4 [(0, .ref (ad 0)), (1, .int 1), (2, .int a2), (3, .int a3)] := hl
  refine lv_iload_n hx hb dX11_row_0 rfl (lv_at hl 1 rfl) ?_
  refine xcSi E hs hQ hml hl.1 (uX8_isSlot l g ad _ hD S 1) mX8_isSlot q1433 rfl ⟨by decide, by decide⟩ ⟨by decide, by decide⟩ (Nat.le_of_ble_eq_true rfl) rfl dX11_row_1 (fun r1 S1 H locs hp1 hQ => ?_)
  obtain ⟨rfl, hp1⟩ := hp1
  have hz1 : r1 = 1 := by
    rcases hp1 with ⟨h, _⟩ | ⟨_, h⟩
    · exact h
    · exact absurd h (by decide)
  subst hz1
  refine lv_if_eq (tgt := 22) hx hb dX11_row_4 (by decide) (fun k_2 => absurd k_2 (by decide)) (fun k_2 => ?_)
  refine lv_iload_n hx hb dX11_row_7 rfl (lv_at hl 2 rfl) ?_
  refine lv_if_lt (tgt := 22) hx hb dX11_row_8 (by decide) (fun k_3 => ?_) (fun k_3 => ?_)
  · refine lv_bipush (v := (-2)) hx hb dX11_row_22 (by decide) ?_
    exact xri E hr hlk hQ (by try simp only [i32_lt, i32_le, i32_eq, i64_lt, i64_le, w64, l_0, l_1, l_2, l_3, l_4, l_60, l_m1, L_0, L_2, L_3, L_9] at k_3; unfold ansRow; try simp only [l_0, l_1, l_2, l_3]; (repeat' split) <;> first | rfl | omega) dX11_row_24
  · refine lv_iload_n hx hb dX11_row_11 rfl (lv_at hl 2 rfl) ?_
    refine lv_iconst (v := 4) hx hb dX11_row_12 (by decide) ?_
    refine lv_icmp_ge (tgt := 22) hx hb dX11_row_13 (by decide) (fun k_4 => ?_) (fun k_4 => ?_)
    · refine lv_bipush (v := (-2)) hx hb dX11_row_22 (by decide) ?_
      exact xri E hr hlk hQ (by try simp only [i32_lt, i32_le, i32_eq, i64_lt, i64_le, w64, l_0, l_1, l_2, l_3, l_4, l_60, l_m1, L_0, L_2, L_3, L_9] at k_3; try simp only [i32_lt, i32_le, i32_eq, i64_lt, i64_le, w64, l_0, l_1, l_2, l_3, l_4, l_60, l_m1, L_0, L_2, L_3, L_9] at k_4; unfold ansRow; try simp only [l_0, l_1, l_2, l_3]; (repeat' split) <;> first | rfl | omega) dX11_row_24
    · refine lv_iload_n hx hb dX11_row_16 rfl (lv_at hl 3 rfl) ?_
      refine lv_bipush (v := 60) hx hb dX11_row_17 (by decide) ?_
      refine lv_icmp_le (tgt := 25) hx hb dX11_row_19 (by decide) (fun k_5 => ?_) (fun k_5 => ?_)
      · refine lv_iload_n hx hb dX11_row_25 rfl (lv_at hl 3 rfl) ?_
        refine lv_if_ge (tgt := 32) hx hb dX11_row_26 (by decide) (fun k_6 => ?_) (fun k_6 => ?_)
        · refine lv_aload_n hx hb dX11_row_32 rfl (lv_at hl 0 rfl) ?_
          have c_7 : S 0 = .inr (11, [.ref (ad 1), .int 0, .int 0, .int (-1), .ref (ad 2), .ref (ad 20), .ref (ad 38), .ref (ad 93), .ref (ad 94), .ref (ad 95), .ref (ad 102), .ref (ad 104), .ref (ad 107), .ref (ad 111), .ref (ad 119)]) := (hX 0 (by decide))
          refine xget E hQ 0 (by decide) c_7 rfl 13 (by decide) q529 rfl dX11_row_33 ?_
          refine lv_iload_n hx hb dX11_row_36 rfl (lv_at hl 1 rfl) ?_
          refine lv_iload_n hx hb dX11_row_37 rfl (lv_at hl 2 rfl) ?_
          refine lv_iload_n hx hb dX11_row_38 rfl (lv_at hl 3 rfl) ?_
          have c_8 : S 117 = .inl (g.2 0, 4, .inl zf) := (hX 117 (by decide))
          have c_9 : S 118 = .inl (g.2 0, 4, .inl szF) := (hX 118 (by decide))
          have c_10 : S 114 = .inl (g.2 2, 60, .inr (.inl zfL)) := (hX 114 (by decide))
          have c_11 : S 111 = .inr (8, [.ref (ad 112), .ref (ad 117), .ref (ad 118)]) := (hX 111 (by decide))
          have c_12 : S 112 = .inl (g.2 5, 4, .inr (.inr (.inr (.inr (nuF ad))))) := (hX 112 (by decide))
          refine xcVv E hs hQ hml hl.1 111 (lay_1 l g ad hD S a2 a3 zf szF zfL c_11 c_12 c_8 c_9 c_10) mX8_lay q1434 (by decide) c_11 rfl rfl ⟨by decide, by decide⟩ ⟨by decide, by decide⟩ (Nat.le_of_ble_eq_true rfl) rfl dX11_row_39 (fun S13 H locs hp13 hQ _ => ?_)
          obtain ⟨o13, ⟨f13_117, v13_117⟩, ⟨f13_118, v13_118⟩, ⟨f13_114, v13_114⟩⟩ := hp13
          refine lv_iconst (v := 0) hx hb dX11_row_42 (by decide) ?_
          exact xri E hr hlk hQ (by try simp only [i32_lt, i32_le, i32_eq, i64_lt, i64_le, w64, l_0, l_1, l_2, l_3, l_4, l_60, l_m1, L_0, L_2, L_3, L_9] at k_3; try simp only [i32_lt, i32_le, i32_eq, i64_lt, i64_le, w64, l_0, l_1, l_2, l_3, l_4, l_60, l_m1, L_0, L_2, L_3, L_9] at k_4; try simp only [i32_lt, i32_le, i32_eq, i64_lt, i64_le, w64, l_0, l_1, l_2, l_3, l_4, l_60, l_m1, L_0, L_2, L_3, L_9] at k_5; try simp only [i32_lt, i32_le, i32_eq, i64_lt, i64_le, w64, l_0, l_1, l_2, l_3, l_4, l_60, l_m1, L_0, L_2, L_3, L_9] at k_6; unfold ansRow; try simp only [l_0, l_1, l_2, l_3]; (repeat' split) <;> first | rfl | omega) dX11_row_43
        · refine lv_bipush (v := (-3)) hx hb dX11_row_29 (by decide) ?_
          exact xri E hr hlk hQ (by try simp only [i32_lt, i32_le, i32_eq, i64_lt, i64_le, w64, l_0, l_1, l_2, l_3, l_4, l_60, l_m1, L_0, L_2, L_3, L_9] at k_3; try simp only [i32_lt, i32_le, i32_eq, i64_lt, i64_le, w64, l_0, l_1, l_2, l_3, l_4, l_60, l_m1, L_0, L_2, L_3, L_9] at k_4; try simp only [i32_lt, i32_le, i32_eq, i64_lt, i64_le, w64, l_0, l_1, l_2, l_3, l_4, l_60, l_m1, L_0, L_2, L_3, L_9] at k_5; try simp only [i32_lt, i32_le, i32_eq, i64_lt, i64_le, w64, l_0, l_1, l_2, l_3, l_4, l_60, l_m1, L_0, L_2, L_3, L_9] at k_6; unfold ansRow; try simp only [l_0, l_1, l_2, l_3]; (repeat' split) <;> first | rfl | omega) dX11_row_31
      · refine lv_bipush (v := (-2)) hx hb dX11_row_22 (by decide) ?_
        exact xri E hr hlk hQ (by try simp only [i32_lt, i32_le, i32_eq, i64_lt, i64_le, w64, l_0, l_1, l_2, l_3, l_4, l_60, l_m1, L_0, L_2, L_3, L_9] at k_3; try simp only [i32_lt, i32_le, i32_eq, i64_lt, i64_le, w64, l_0, l_1, l_2, l_3, l_4, l_60, l_m1, L_0, L_2, L_3, L_9] at k_4; try simp only [i32_lt, i32_le, i32_eq, i64_lt, i64_le, w64, l_0, l_1, l_2, l_3, l_4, l_60, l_m1, L_0, L_2, L_3, L_9] at k_5; unfold ansRow; try simp only [l_0, l_1, l_2, l_3]; (repeat' split) <;> first | rfl | omega) dX11_row_24
set_option maxHeartbeats 4000000 in
set_option maxRecDepth 100000 in
theorem fX11_row_2 (l : Launch) (g : GG) (ad : Nat → Nat) (hD : Dj ad 122) (S : SS) (a2 : Int32) (a3 : Int32) (hX : ∀ i, i < 122 → S i = X0 g ad i) : Met l yX11_row (wG (.code yX11_row cX11_row 4 (some .int))) (Rm 2) (XPre g ad 122 S [.ref (ad 0), .int 2, .int a2, .int a3]) (va_Qi (fun r _ => r = ansRow 2 a2 a3) (QB g ad 122) (FA ad 122)) 0 0 (FA ad 122) := by
  refine xmet cX11_row "EbbWreck" (by decide) rfl (Nat.le_of_ble_eq_true rfl) (fun p e s m below meth c E hr hlk hml hQ ls hl => ?_)
  have hx := E.1
  have hb := E.2.1
  have hs : Sp ad 122 (FA ad 122) := Sp.fa hD
  have hl : lv_has ls 4 [(0, .ref (ad 0)), (1, .int 2), (2, .int a2), (3, .int a3)] := hl
  refine lv_iload_n hx hb dX11_row_0 rfl (lv_at hl 1 rfl) ?_
  refine xcSi E hs hQ hml hl.1 (uX8_isSlot l g ad _ hD S 2) mX8_isSlot q1433 rfl ⟨by decide, by decide⟩ ⟨by decide, by decide⟩ (Nat.le_of_ble_eq_true rfl) rfl dX11_row_1 (fun r1 S1 H locs hp1 hQ => ?_)
  obtain ⟨rfl, hp1⟩ := hp1
  have hz1 : r1 = 1 := by
    rcases hp1 with ⟨h, _⟩ | ⟨_, h⟩
    · exact h
    · exact absurd h (by decide)
  subst hz1
  refine lv_if_eq (tgt := 22) hx hb dX11_row_4 (by decide) (fun k_2 => absurd k_2 (by decide)) (fun k_2 => ?_)
  refine lv_iload_n hx hb dX11_row_7 rfl (lv_at hl 2 rfl) ?_
  refine lv_if_lt (tgt := 22) hx hb dX11_row_8 (by decide) (fun k_3 => ?_) (fun k_3 => ?_)
  · refine lv_bipush (v := (-2)) hx hb dX11_row_22 (by decide) ?_
    exact xri E hr hlk hQ (by try simp only [i32_lt, i32_le, i32_eq, i64_lt, i64_le, w64, l_0, l_1, l_2, l_3, l_4, l_60, l_m1, L_0, L_2, L_3, L_9] at k_3; unfold ansRow; try simp only [l_0, l_1, l_2, l_3]; (repeat' split) <;> first | rfl | omega) dX11_row_24
  · refine lv_iload_n hx hb dX11_row_11 rfl (lv_at hl 2 rfl) ?_
    refine lv_iconst (v := 4) hx hb dX11_row_12 (by decide) ?_
    refine lv_icmp_ge (tgt := 22) hx hb dX11_row_13 (by decide) (fun k_4 => ?_) (fun k_4 => ?_)
    · refine lv_bipush (v := (-2)) hx hb dX11_row_22 (by decide) ?_
      exact xri E hr hlk hQ (by try simp only [i32_lt, i32_le, i32_eq, i64_lt, i64_le, w64, l_0, l_1, l_2, l_3, l_4, l_60, l_m1, L_0, L_2, L_3, L_9] at k_3; try simp only [i32_lt, i32_le, i32_eq, i64_lt, i64_le, w64, l_0, l_1, l_2, l_3, l_4, l_60, l_m1, L_0, L_2, L_3, L_9] at k_4; unfold ansRow; try simp only [l_0, l_1, l_2, l_3]; (repeat' split) <;> first | rfl | omega) dX11_row_24
    · refine lv_iload_n hx hb dX11_row_16 rfl (lv_at hl 3 rfl) ?_
      refine lv_bipush (v := 60) hx hb dX11_row_17 (by decide) ?_
      refine lv_icmp_le (tgt := 25) hx hb dX11_row_19 (by decide) (fun k_5 => ?_) (fun k_5 => ?_)
      · refine lv_iload_n hx hb dX11_row_25 rfl (lv_at hl 3 rfl) ?_
        refine lv_if_ge (tgt := 32) hx hb dX11_row_26 (by decide) (fun k_6 => ?_) (fun k_6 => ?_)
        · refine lv_aload_n hx hb dX11_row_32 rfl (lv_at hl 0 rfl) ?_
          have c_7 : S 0 = .inr (11, [.ref (ad 1), .int 0, .int 0, .int (-1), .ref (ad 2), .ref (ad 20), .ref (ad 38), .ref (ad 93), .ref (ad 94), .ref (ad 95), .ref (ad 102), .ref (ad 104), .ref (ad 107), .ref (ad 111), .ref (ad 119)]) := (hX 0 (by decide))
          refine xget E hQ 0 (by decide) c_7 rfl 13 (by decide) q529 rfl dX11_row_33 ?_
          refine lv_iload_n hx hb dX11_row_36 rfl (lv_at hl 1 rfl) ?_
          refine lv_iload_n hx hb dX11_row_37 rfl (lv_at hl 2 rfl) ?_
          refine lv_iload_n hx hb dX11_row_38 rfl (lv_at hl 3 rfl) ?_
          have c_8 : S 117 = .inl (g.2 0, 4, .inl zf) := (hX 117 (by decide))
          have c_9 : S 118 = .inl (g.2 0, 4, .inl szF) := (hX 118 (by decide))
          have c_10 : S 115 = .inl (g.2 2, 60, .inr (.inl zfL)) := (hX 115 (by decide))
          have c_11 : S 111 = .inr (8, [.ref (ad 112), .ref (ad 117), .ref (ad 118)]) := (hX 111 (by decide))
          have c_12 : S 112 = .inl (g.2 5, 4, .inr (.inr (.inr (.inr (nuF ad))))) := (hX 112 (by decide))
          refine xcVv E hs hQ hml hl.1 111 (lay_2 l g ad hD S a2 a3 zf szF zfL c_11 c_12 c_8 c_9 c_10) mX8_lay q1434 (by decide) c_11 rfl rfl ⟨by decide, by decide⟩ ⟨by decide, by decide⟩ (Nat.le_of_ble_eq_true rfl) rfl dX11_row_39 (fun S13 H locs hp13 hQ _ => ?_)
          obtain ⟨o13, ⟨f13_117, v13_117⟩, ⟨f13_118, v13_118⟩, ⟨f13_115, v13_115⟩⟩ := hp13
          refine lv_iconst (v := 0) hx hb dX11_row_42 (by decide) ?_
          exact xri E hr hlk hQ (by try simp only [i32_lt, i32_le, i32_eq, i64_lt, i64_le, w64, l_0, l_1, l_2, l_3, l_4, l_60, l_m1, L_0, L_2, L_3, L_9] at k_3; try simp only [i32_lt, i32_le, i32_eq, i64_lt, i64_le, w64, l_0, l_1, l_2, l_3, l_4, l_60, l_m1, L_0, L_2, L_3, L_9] at k_4; try simp only [i32_lt, i32_le, i32_eq, i64_lt, i64_le, w64, l_0, l_1, l_2, l_3, l_4, l_60, l_m1, L_0, L_2, L_3, L_9] at k_5; try simp only [i32_lt, i32_le, i32_eq, i64_lt, i64_le, w64, l_0, l_1, l_2, l_3, l_4, l_60, l_m1, L_0, L_2, L_3, L_9] at k_6; unfold ansRow; try simp only [l_0, l_1, l_2, l_3]; (repeat' split) <;> first | rfl | omega) dX11_row_43
        · refine lv_bipush (v := (-3)) hx hb dX11_row_29 (by decide) ?_
          exact xri E hr hlk hQ (by try simp only [i32_lt, i32_le, i32_eq, i64_lt, i64_le, w64, l_0, l_1, l_2, l_3, l_4, l_60, l_m1, L_0, L_2, L_3, L_9] at k_3; try simp only [i32_lt, i32_le, i32_eq, i64_lt, i64_le, w64, l_0, l_1, l_2, l_3, l_4, l_60, l_m1, L_0, L_2, L_3, L_9] at k_4; try simp only [i32_lt, i32_le, i32_eq, i64_lt, i64_le, w64, l_0, l_1, l_2, l_3, l_4, l_60, l_m1, L_0, L_2, L_3, L_9] at k_5; try simp only [i32_lt, i32_le, i32_eq, i64_lt, i64_le, w64, l_0, l_1, l_2, l_3, l_4, l_60, l_m1, L_0, L_2, L_3, L_9] at k_6; unfold ansRow; try simp only [l_0, l_1, l_2, l_3]; (repeat' split) <;> first | rfl | omega) dX11_row_31
      · refine lv_bipush (v := (-2)) hx hb dX11_row_22 (by decide) ?_
        exact xri E hr hlk hQ (by try simp only [i32_lt, i32_le, i32_eq, i64_lt, i64_le, w64, l_0, l_1, l_2, l_3, l_4, l_60, l_m1, L_0, L_2, L_3, L_9] at k_3; try simp only [i32_lt, i32_le, i32_eq, i64_lt, i64_le, w64, l_0, l_1, l_2, l_3, l_4, l_60, l_m1, L_0, L_2, L_3, L_9] at k_4; try simp only [i32_lt, i32_le, i32_eq, i64_lt, i64_le, w64, l_0, l_1, l_2, l_3, l_4, l_60, l_m1, L_0, L_2, L_3, L_9] at k_5; unfold ansRow; try simp only [l_0, l_1, l_2, l_3]; (repeat' split) <;> first | rfl | omega) dX11_row_24
set_option maxHeartbeats 4000000 in
set_option maxRecDepth 100000 in
theorem fX11_row_3 (l : Launch) (g : GG) (ad : Nat → Nat) (hD : Dj ad 122) (S : SS) (a2 : Int32) (a3 : Int32) (hX : ∀ i, i < 122 → S i = X0 g ad i) : Met l yX11_row (wG (.code yX11_row cX11_row 4 (some .int))) (Rm 2) (XPre g ad 122 S [.ref (ad 0), .int 3, .int a2, .int a3]) (va_Qi (fun r _ => r = ansRow 3 a2 a3) (QB g ad 122) (FA ad 122)) 0 0 (FA ad 122) := by
  refine xmet cX11_row "EbbWreck" (by decide) rfl (Nat.le_of_ble_eq_true rfl) (fun p e s m below meth c E hr hlk hml hQ ls hl => ?_)
  have hx := E.1
  have hb := E.2.1
  have hs : Sp ad 122 (FA ad 122) := Sp.fa hD
  have hl : lv_has ls 4 [(0, .ref (ad 0)), (1, .int 3), (2, .int a2), (3, .int a3)] := hl
  refine lv_iload_n hx hb dX11_row_0 rfl (lv_at hl 1 rfl) ?_
  refine xcSi E hs hQ hml hl.1 (uX8_isSlot l g ad _ hD S 3) mX8_isSlot q1433 rfl ⟨by decide, by decide⟩ ⟨by decide, by decide⟩ (Nat.le_of_ble_eq_true rfl) rfl dX11_row_1 (fun r1 S1 H locs hp1 hQ => ?_)
  obtain ⟨rfl, hp1⟩ := hp1
  have hz1 : r1 = 1 := by
    rcases hp1 with ⟨h, _⟩ | ⟨_, h⟩
    · exact h
    · exact absurd h (by decide)
  subst hz1
  refine lv_if_eq (tgt := 22) hx hb dX11_row_4 (by decide) (fun k_2 => absurd k_2 (by decide)) (fun k_2 => ?_)
  refine lv_iload_n hx hb dX11_row_7 rfl (lv_at hl 2 rfl) ?_
  refine lv_if_lt (tgt := 22) hx hb dX11_row_8 (by decide) (fun k_3 => ?_) (fun k_3 => ?_)
  · refine lv_bipush (v := (-2)) hx hb dX11_row_22 (by decide) ?_
    exact xri E hr hlk hQ (by try simp only [i32_lt, i32_le, i32_eq, i64_lt, i64_le, w64, l_0, l_1, l_2, l_3, l_4, l_60, l_m1, L_0, L_2, L_3, L_9] at k_3; unfold ansRow; try simp only [l_0, l_1, l_2, l_3]; (repeat' split) <;> first | rfl | omega) dX11_row_24
  · refine lv_iload_n hx hb dX11_row_11 rfl (lv_at hl 2 rfl) ?_
    refine lv_iconst (v := 4) hx hb dX11_row_12 (by decide) ?_
    refine lv_icmp_ge (tgt := 22) hx hb dX11_row_13 (by decide) (fun k_4 => ?_) (fun k_4 => ?_)
    · refine lv_bipush (v := (-2)) hx hb dX11_row_22 (by decide) ?_
      exact xri E hr hlk hQ (by try simp only [i32_lt, i32_le, i32_eq, i64_lt, i64_le, w64, l_0, l_1, l_2, l_3, l_4, l_60, l_m1, L_0, L_2, L_3, L_9] at k_3; try simp only [i32_lt, i32_le, i32_eq, i64_lt, i64_le, w64, l_0, l_1, l_2, l_3, l_4, l_60, l_m1, L_0, L_2, L_3, L_9] at k_4; unfold ansRow; try simp only [l_0, l_1, l_2, l_3]; (repeat' split) <;> first | rfl | omega) dX11_row_24
    · refine lv_iload_n hx hb dX11_row_16 rfl (lv_at hl 3 rfl) ?_
      refine lv_bipush (v := 60) hx hb dX11_row_17 (by decide) ?_
      refine lv_icmp_le (tgt := 25) hx hb dX11_row_19 (by decide) (fun k_5 => ?_) (fun k_5 => ?_)
      · refine lv_iload_n hx hb dX11_row_25 rfl (lv_at hl 3 rfl) ?_
        refine lv_if_ge (tgt := 32) hx hb dX11_row_26 (by decide) (fun k_6 => ?_) (fun k_6 => ?_)
        · refine lv_aload_n hx hb dX11_row_32 rfl (lv_at hl 0 rfl) ?_
          have c_7 : S 0 = .inr (11, [.ref (ad 1), .int 0, .int 0, .int (-1), .ref (ad 2), .ref (ad 20), .ref (ad 38), .ref (ad 93), .ref (ad 94), .ref (ad 95), .ref (ad 102), .ref (ad 104), .ref (ad 107), .ref (ad 111), .ref (ad 119)]) := (hX 0 (by decide))
          refine xget E hQ 0 (by decide) c_7 rfl 13 (by decide) q529 rfl dX11_row_33 ?_
          refine lv_iload_n hx hb dX11_row_36 rfl (lv_at hl 1 rfl) ?_
          refine lv_iload_n hx hb dX11_row_37 rfl (lv_at hl 2 rfl) ?_
          refine lv_iload_n hx hb dX11_row_38 rfl (lv_at hl 3 rfl) ?_
          have c_8 : S 117 = .inl (g.2 0, 4, .inl zf) := (hX 117 (by decide))
          have c_9 : S 118 = .inl (g.2 0, 4, .inl szF) := (hX 118 (by decide))
          have c_10 : S 116 = .inl (g.2 2, 60, .inr (.inl zfL)) := (hX 116 (by decide))
          have c_11 : S 111 = .inr (8, [.ref (ad 112), .ref (ad 117), .ref (ad 118)]) := (hX 111 (by decide))
          have c_12 : S 112 = .inl (g.2 5, 4, .inr (.inr (.inr (.inr (nuF ad))))) := (hX 112 (by decide))
          refine xcVv E hs hQ hml hl.1 111 (lay_3 l g ad hD S a2 a3 zf szF zfL c_11 c_12 c_8 c_9 c_10) mX8_lay q1434 (by decide) c_11 rfl rfl ⟨by decide, by decide⟩ ⟨by decide, by decide⟩ (Nat.le_of_ble_eq_true rfl) rfl dX11_row_39 (fun S13 H locs hp13 hQ _ => ?_)
          obtain ⟨o13, ⟨f13_117, v13_117⟩, ⟨f13_118, v13_118⟩, ⟨f13_116, v13_116⟩⟩ := hp13
          refine lv_iconst (v := 0) hx hb dX11_row_42 (by decide) ?_
          exact xri E hr hlk hQ (by try simp only [i32_lt, i32_le, i32_eq, i64_lt, i64_le, w64, l_0, l_1, l_2, l_3, l_4, l_60, l_m1, L_0, L_2, L_3, L_9] at k_3; try simp only [i32_lt, i32_le, i32_eq, i64_lt, i64_le, w64, l_0, l_1, l_2, l_3, l_4, l_60, l_m1, L_0, L_2, L_3, L_9] at k_4; try simp only [i32_lt, i32_le, i32_eq, i64_lt, i64_le, w64, l_0, l_1, l_2, l_3, l_4, l_60, l_m1, L_0, L_2, L_3, L_9] at k_5; try simp only [i32_lt, i32_le, i32_eq, i64_lt, i64_le, w64, l_0, l_1, l_2, l_3, l_4, l_60, l_m1, L_0, L_2, L_3, L_9] at k_6; unfold ansRow; try simp only [l_0, l_1, l_2, l_3]; (repeat' split) <;> first | rfl | omega) dX11_row_43
        · refine lv_bipush (v := (-3)) hx hb dX11_row_29 (by decide) ?_
          exact xri E hr hlk hQ (by try simp only [i32_lt, i32_le, i32_eq, i64_lt, i64_le, w64, l_0, l_1, l_2, l_3, l_4, l_60, l_m1, L_0, L_2, L_3, L_9] at k_3; try simp only [i32_lt, i32_le, i32_eq, i64_lt, i64_le, w64, l_0, l_1, l_2, l_3, l_4, l_60, l_m1, L_0, L_2, L_3, L_9] at k_4; try simp only [i32_lt, i32_le, i32_eq, i64_lt, i64_le, w64, l_0, l_1, l_2, l_3, l_4, l_60, l_m1, L_0, L_2, L_3, L_9] at k_5; try simp only [i32_lt, i32_le, i32_eq, i64_lt, i64_le, w64, l_0, l_1, l_2, l_3, l_4, l_60, l_m1, L_0, L_2, L_3, L_9] at k_6; unfold ansRow; try simp only [l_0, l_1, l_2, l_3]; (repeat' split) <;> first | rfl | omega) dX11_row_31
      · refine lv_bipush (v := (-2)) hx hb dX11_row_22 (by decide) ?_
        exact xri E hr hlk hQ (by try simp only [i32_lt, i32_le, i32_eq, i64_lt, i64_le, w64, l_0, l_1, l_2, l_3, l_4, l_60, l_m1, L_0, L_2, L_3, L_9] at k_3; try simp only [i32_lt, i32_le, i32_eq, i64_lt, i64_le, w64, l_0, l_1, l_2, l_3, l_4, l_60, l_m1, L_0, L_2, L_3, L_9] at k_4; try simp only [i32_lt, i32_le, i32_eq, i64_lt, i64_le, w64, l_0, l_1, l_2, l_3, l_4, l_60, l_m1, L_0, L_2, L_3, L_9] at k_5; unfold ansRow; try simp only [l_0, l_1, l_2, l_3]; (repeat' split) <;> first | rfl | omega) dX11_row_24
set_option maxHeartbeats 4000000 in
set_option maxRecDepth 100000 in
theorem fX11_row_o (l : Launch) (g : GG) (ad : Nat → Nat) (hD : Dj ad 122) (S : SS) (a1 : Int32) (a2 : Int32) (a3 : Int32) (ho : a1 < 0 ∨ 4 ≤ a1) (hX : ∀ i, i < 122 → S i = X0 g ad i) : Met l yX11_row (wG (.code yX11_row cX11_row 4 (some .int))) (Rm 2) (XPre g ad 122 S [.ref (ad 0), .int a1, .int a2, .int a3]) (va_Qi (fun r _ => r = ansRow a1 a2 a3) (QB g ad 122) (FA ad 122)) 0 0 (FA ad 122) := by
  refine xmet cX11_row "EbbWreck" (by decide) rfl (Nat.le_of_ble_eq_true rfl) (fun p e s m below meth c E hr hlk hml hQ ls hl => ?_)
  have hx := E.1
  have hb := E.2.1
  have hs : Sp ad 122 (FA ad 122) := Sp.fa hD
  have hl : lv_has ls 4 [(0, .ref (ad 0)), (1, .int a1), (2, .int a2), (3, .int a3)] := hl
  refine lv_iload_n hx hb dX11_row_0 rfl (lv_at hl 1 rfl) ?_
  refine xcSi E hs hQ hml hl.1 (uX8_isSlot l g ad _ hD S a1) mX8_isSlot q1433 rfl ⟨by decide, by decide⟩ ⟨by decide, by decide⟩ (Nat.le_of_ble_eq_true rfl) rfl dX11_row_1 (fun r1 S1 H locs hp1 hQ => ?_)
  obtain ⟨rfl, hp1⟩ := hp1
  have hz1 : r1 = 0 := by
    rcases hp1 with ⟨_, h1, h2⟩ | ⟨h, _⟩
    · exact absurd ho (fun h => h.elim h1 h2)
    · exact h
  subst hz1
  refine lv_if_eq (tgt := 22) hx hb dX11_row_4 (by decide) (fun k_2 => ?_) (fun k_2 => absurd k_2 (by decide))
  refine lv_bipush (v := (-2)) hx hb dX11_row_22 (by decide) ?_
  exact xri E hr hlk hQ (by try simp only [i32_lt, i32_le, i32_eq, i64_lt, i64_le, w64, l_0, l_1, l_2, l_3, l_4, l_60, l_m1, L_0, L_2, L_3, L_9] at ho; unfold ansRow; (repeat' split) <;> first | rfl | omega) dX11_row_24
set_option maxHeartbeats 4000000 in
set_option maxRecDepth 100000 in
theorem tell_21 (l : Launch) (g : GG) (ad : Nat → Nat) (hD : Dj ad 122) (S : SS) (f22 : Nat → Int32) (h21 : S 21 = .inr (10, [.int 0, .int 0, .int 0, .int 0, .ref (ad 22)])) (h22 : S 22 = .inl (g.2 0, 36, .inl f22)) : Met l yX10_tell (wG (.code yX10_tell cX10_tell 5 none)) (Rm 1) (XPre g ad 122 S [.ref (ad 21), .int 0, .int 0, .int 0]) (va_Qv (fun S' => (∀ j, j ∉ ([21, 22] : List Nat) → S' j = S j) ∧ S' 21 = .inr (10, [.int 0, .int 0, .int 0, .int 0, .ref (ad 22)]) ∧ (∃ f : Nat → Int32, S' 22 = .inl (g.2 0, 36, .inl f))) (QB g ad 122) (FA ad 122)) 0 0 (FA ad 122) := by
  refine xmet cX10_tell "EbbWreck$Tide" (by decide) rfl (Nat.le_of_ble_eq_true rfl) (fun p e s m below meth c E hr hlk hml hQ ls hl => ?_)
  have hx := E.1
  have hb := E.2.1
  have hs : Sp ad 122 (FA ad 122) := Sp.fa hD
  have hl : lv_has ls 5 [(0, .ref (ad 21)), (1, .int 0), (2, .int 0), (3, .int 0)] := hl
  refine lv_aload_n hx hb dX10_tell_0 rfl (lv_at hl 0 rfl) ?_
  refine lv_iload_n hx hb dX10_tell_1 rfl (lv_at hl 1 rfl) ?_
  refine xputi E hs hQ 21 (by decide) h21 rfl 0 (by decide) q155 rfl rfl (Nat.le_of_ble_eq_true rfl) dX10_tell_2 (fun H locs S1 e1 hQ => ?_)
  have u1 : S1 21 = .inr (10, [.int 0, .int 0, .int 0, .int 0, .ref (ad 22)]) := up_at e1 rfl
  refine lv_aload_n hx hb dX10_tell_5 rfl (lv_at hl 0 rfl) ?_
  refine lv_iload_n hx hb dX10_tell_6 rfl (lv_at hl 2 rfl) ?_
  refine xputi E hs hQ 21 (by decide) u1 rfl 1 (by decide) q158 rfl rfl (Nat.le_of_ble_eq_true rfl) dX10_tell_7 (fun H locs S2 e2 hQ => ?_)
  have u2 : S2 21 = .inr (10, [.int 0, .int 0, .int 0, .int 0, .ref (ad 22)]) := up_at e2 rfl
  refine lv_aload_n hx hb dX10_tell_10 rfl (lv_at hl 0 rfl) ?_
  refine lv_iload_n hx hb dX10_tell_11 rfl (lv_at hl 3 rfl) ?_
  refine xputi E hs hQ 21 (by decide) u2 rfl 2 (by decide) q161 rfl rfl (Nat.le_of_ble_eq_true rfl) dX10_tell_12 (fun H locs S3 e3 hQ => ?_)
  have u3 : S3 21 = .inr (10, [.int 0, .int 0, .int 0, .int 0, .ref (ad 22)]) := up_at e3 rfl
  refine lv_aload_n hx hb dX10_tell_15 rfl (lv_at hl 0 rfl) ?_
  refine lv_aload_n hx hb dX10_tell_16 rfl (lv_at hl 0 rfl) ?_
  refine xget E hQ 21 (by decide) u3 rfl 0 (by decide) q155 rfl dX10_tell_17 ?_
  refine lv_aload_n hx hb dX10_tell_20 rfl (lv_at hl 0 rfl) ?_
  refine xget E hQ 21 (by decide) u3 rfl 1 (by decide) q158 rfl dX10_tell_21 ?_
  refine lv_iadd hx hb dX10_tell_24 ?_
  refine sb_at (P := fun z => W _ _ _ _ _ _ _ _ _ _ _ _ _ _ _ (F0 _ _ _ (.int z :: _))) (show (0 : Int32) + 0 = 0 by decide) ?_
  refine lv_aload_n hx hb dX10_tell_25 rfl (lv_at hl 0 rfl) ?_
  refine xget E hQ 21 (by decide) u3 rfl 2 (by decide) q161 rfl dX10_tell_26 ?_
  refine lv_iadd hx hb dX10_tell_29 ?_
  refine sb_at (P := fun z => W _ _ _ _ _ _ _ _ _ _ _ _ _ _ _ (F0 _ _ _ (.int z :: _))) (show (0 : Int32) + 0 = 0 by decide) ?_
  refine lv_aload_n hx hb dX10_tell_30 rfl (lv_at hl 0 rfl) ?_
  refine xget E hQ 21 (by decide) u3 rfl 1 (by decide) q158 rfl dX10_tell_31 ?_
  refine lv_iadd hx hb dX10_tell_34 ?_
  refine sb_at (P := fun z => W _ _ _ _ _ _ _ _ _ _ _ _ _ _ _ (F0 _ _ _ (.int z :: _))) (show (0 : Int32) + 0 = 0 by decide) ?_
  refine xputi E hs hQ 21 (by decide) u3 rfl 3 (by decide) q165 rfl rfl (Nat.le_of_ble_eq_true rfl) dX10_tell_35 (fun H locs S4 e4 hQ => ?_)
  have u4 : S4 21 = .inr (10, [.int 0, .int 0, .int 0, .int 0, .ref (ad 22)]) := up_at e4 rfl
  refine lv_aload_n hx hb dX10_tell_38 rfl (lv_at hl 0 rfl) ?_
  refine xget E hQ 21 (by decide) u4 rfl 4 (by decide) q166 rfl dX10_tell_39 ?_
  refine lv_iconst (v := 1) hx hb dX10_tell_42 (by decide) ?_
  have c_5 : S4 22 = .inl (g.2 0, 36, .inl f22) := (up_ne e4 (by decide) (up_ne e3 (by decide) (up_ne e2 (by decide) (up_ne e1 (by decide) h22))))
  refine xcSv E hs hQ hml hl.1 (uFillI l g ad _ hD S4 22 (by decide) 36 (by decide) f22 1 c_5) mJ7_fill_53178 q596 rfl ⟨by decide, by decide⟩ ⟨by decide, by decide⟩ (Nat.le_of_ble_eq_true rfl) rfl dX10_tell_43 (fun S6 H locs hp6 hQ => ?_)
  have e6 := hp6
  have u6 : S6 22 = .inl (g.2 0, 36, .inl (fillF 1 36 f22)) := up_at e6 rfl
  refine lv_iconst (v := 0) hx hb dX10_tell_46 (by decide) ?_
  refine lv_istore (lv' := [(4, .int 0), (0, .ref (ad 21)), (1, .int 0), (2, .int 0), (3, .int 0)]) hx hb dX10_tell_47 hl (by decide) rfl (fun ls hl => ?_)
  refine lv_iload hx hb dX10_tell_49 (lv_at hl 0 rfl) ?_
  refine lv_aload_n hx hb dX10_tell_51 rfl (lv_at hl 1 rfl) ?_
  have c_7 : S6 21 = .inr (10, [.int 0, .int 0, .int 0, .int 0, .ref (ad 22)]) := (up_ne e6 (by decide) u4)
  refine xget E hQ 21 (by decide) c_7 rfl 0 (by decide) q155 rfl dX10_tell_52 ?_
  refine lv_icmp_ge (tgt := 79) hx hb dX10_tell_55 (by decide) (fun k_8 => ?_) (fun k_8 => absurd k_8 (by decide))
  refine lv_aload_n hx hb dX10_tell_79 rfl (lv_at hl 1 rfl) ?_
  refine xget E hQ 21 (by decide) c_7 rfl 0 (by decide) q155 rfl dX10_tell_80 ?_
  refine lv_aload_n hx hb dX10_tell_83 rfl (lv_at hl 1 rfl) ?_
  refine xget E hQ 21 (by decide) c_7 rfl 1 (by decide) q158 rfl dX10_tell_84 ?_
  refine lv_iadd hx hb dX10_tell_87 ?_
  refine sb_at (P := fun z => W _ _ _ _ _ _ _ _ _ _ _ _ _ _ _ (F0 _ _ _ (.int z :: _))) (show (0 : Int32) + 0 = 0 by decide) ?_
  refine lv_istore (lv' := [(4, .int 0), (0, .ref (ad 21)), (1, .int 0), (2, .int 0), (3, .int 0)]) hx hb dX10_tell_88 hl (by decide) rfl (fun ls hl => ?_)
  refine lv_iload hx hb dX10_tell_90 (lv_at hl 0 rfl) ?_
  refine lv_aload_n hx hb dX10_tell_92 rfl (lv_at hl 1 rfl) ?_
  refine xget E hQ 21 (by decide) c_7 rfl 3 (by decide) q165 rfl dX10_tell_93 ?_
  refine lv_aload_n hx hb dX10_tell_96 rfl (lv_at hl 1 rfl) ?_
  refine xget E hQ 21 (by decide) c_7 rfl 1 (by decide) q158 rfl dX10_tell_97 ?_
  refine lv_isub hx hb dX10_tell_100 ?_
  refine sb_at (P := fun z => W _ _ _ _ _ _ _ _ _ _ _ _ _ _ _ (F0 _ _ _ (.int z :: _))) (show (0 : Int32) - 0 = 0 by decide) ?_
  refine lv_icmp_ge (tgt := 125) hx hb dX10_tell_101 (by decide) (fun k_9 => ?_) (fun k_9 => absurd k_9 (by decide))
  exact xrv E hr hlk hQ (⟨fun j hj => (up_ne e6 (fun h => hj (by subst h; decide)) (up_ne e4 (fun h => hj (by subst h; decide)) (up_ne e3 (fun h => hj (by subst h; decide)) (up_ne e2 (fun h => hj (by subst h; decide)) (up_ne e1 (fun h => hj (by subst h; decide)) rfl))))), c_7, ⟨_, u6⟩⟩) dX10_tell_125
set_option maxHeartbeats 4000000 in
set_option maxRecDepth 100000 in
theorem clear_20 (l : Launch) (g : GG) (ad : Nat → Nat) (hD : Dj ad 122) (S : SS) (f22 : Nat → Int32) (f23 : Nat → Int32) (f24 : Nat → Int32) (h20 : S 20 = .inr (1, [.int 0, .int 0, .int 0, .ref (ad 21), .ref (ad 23), .ref (ad 24), .int 0, .int 0, .ref (ad 25), .ref (ad 26), .ref (ad 27), .ref (ad 28), .int 0, .ref (ad 33), .ref (ad 34)])) (h21 : S 21 = .inr (10, [.int 0, .int 0, .int 0, .int 0, .ref (ad 22)])) (h22 : S 22 = .inl (g.2 0, 36, .inl f22)) (h23 : S 23 = .inl (g.2 0, 12, .inl f23)) (h24 : S 24 = .inl (g.2 0, 12, .inl f24)) (h28 : S 28 = .inr (6, [.int 0, .ref (ad 29), .ref (ad 30), .ref (ad 31), .ref (ad 32)])) (h34 : S 34 = .inr (0, [.int 0, .ref (ad 35), .ref (ad 36), .ref (ad 37)])) : Met l yX1_clear (wG (.code yX1_clear cX1_clear 1 none)) (Rm 2) (XPre g ad 122 S [.ref (ad 20)]) (va_Qv (fun S' => (∀ j, j ∉ ([20, 21, 22, 23, 24, 28, 34] : List Nat) → S' j = S j) ∧ S' 20 = .inr (1, [.int 0, .int 0, .int 0, .ref (ad 21), .ref (ad 23), .ref (ad 24), .int 0, .int 0, .ref (ad 25), .ref (ad 26), .ref (ad 27), .ref (ad 28), .int 0, .ref (ad 33), .ref (ad 34)]) ∧ S' 21 = .inr (10, [.int 0, .int 0, .int 0, .int 0, .ref (ad 22)]) ∧ (∃ f : Nat → Int32, S' 22 = .inl (g.2 0, 36, .inl f)) ∧ (∃ f : Nat → Int32, S' 23 = .inl (g.2 0, 12, .inl f)) ∧ (∃ f : Nat → Int32, S' 24 = .inl (g.2 0, 12, .inl f)) ∧ S' 28 = .inr (6, [.int 0, .ref (ad 29), .ref (ad 30), .ref (ad 31), .ref (ad 32)]) ∧ S' 34 = .inr (0, [.int 0, .ref (ad 35), .ref (ad 36), .ref (ad 37)])) (QB g ad 122) (FA ad 122)) 0 0 (FA ad 122) := by
  refine xmet cX1_clear "EbbWreck$Coast" (by decide) rfl (Nat.le_of_ble_eq_true rfl) (fun p e s m below meth c E hr hlk hml hQ ls hl => ?_)
  have hx := E.1
  have hb := E.2.1
  have hs : Sp ad 122 (FA ad 122) := Sp.fa hD
  have hl : lv_has ls 1 [(0, .ref (ad 20))] := hl
  refine lv_aload_n hx hb dX1_clear_0 rfl (lv_at hl 0 rfl) ?_
  refine lv_iconst (v := 0) hx hb dX1_clear_1 (by decide) ?_
  refine xputi E hs hQ 20 (by decide) h20 rfl 0 (by decide) q236 rfl rfl (Nat.le_of_ble_eq_true rfl) dX1_clear_2 (fun H locs S1 e1 hQ => ?_)
  have u1 : S1 20 = .inr (1, [.int 0, .int 0, .int 0, .ref (ad 21), .ref (ad 23), .ref (ad 24), .int 0, .int 0, .ref (ad 25), .ref (ad 26), .ref (ad 27), .ref (ad 28), .int 0, .ref (ad 33), .ref (ad 34)]) := up_at e1 rfl
  refine lv_aload_n hx hb dX1_clear_5 rfl (lv_at hl 0 rfl) ?_
  refine lv_iconst (v := 0) hx hb dX1_clear_6 (by decide) ?_
  refine xputi E hs hQ 20 (by decide) u1 rfl 1 (by decide) q239 rfl rfl (Nat.le_of_ble_eq_true rfl) dX1_clear_7 (fun H locs S2 e2 hQ => ?_)
  have u2 : S2 20 = .inr (1, [.int 0, .int 0, .int 0, .ref (ad 21), .ref (ad 23), .ref (ad 24), .int 0, .int 0, .ref (ad 25), .ref (ad 26), .ref (ad 27), .ref (ad 28), .int 0, .ref (ad 33), .ref (ad 34)]) := up_at e2 rfl
  refine lv_aload_n hx hb dX1_clear_10 rfl (lv_at hl 0 rfl) ?_
  refine lv_iconst (v := 0) hx hb dX1_clear_11 (by decide) ?_
  refine xputi E hs hQ 20 (by decide) u2 rfl 2 (by decide) q247 rfl rfl (Nat.le_of_ble_eq_true rfl) dX1_clear_12 (fun H locs S3 e3 hQ => ?_)
  have u3 : S3 20 = .inr (1, [.int 0, .int 0, .int 0, .ref (ad 21), .ref (ad 23), .ref (ad 24), .int 0, .int 0, .ref (ad 25), .ref (ad 26), .ref (ad 27), .ref (ad 28), .int 0, .ref (ad 33), .ref (ad 34)]) := up_at e3 rfl
  refine lv_aload_n hx hb dX1_clear_15 rfl (lv_at hl 0 rfl) ?_
  refine xget E hQ 20 (by decide) u3 rfl 3 (by decide) q251 rfl dX1_clear_16 ?_
  refine lv_iconst (v := 0) hx hb dX1_clear_19 (by decide) ?_
  refine lv_iconst (v := 0) hx hb dX1_clear_20 (by decide) ?_
  refine lv_iconst (v := 0) hx hb dX1_clear_21 (by decide) ?_
  have c_4 : S3 22 = .inl (g.2 0, 36, .inl f22) := (up_ne e3 (by decide) (up_ne e2 (by decide) (up_ne e1 (by decide) h22)))
  have c_5 : S3 21 = .inr (10, [.int 0, .int 0, .int 0, .int 0, .ref (ad 22)]) := (up_ne e3 (by decide) (up_ne e2 (by decide) (up_ne e1 (by decide) h21)))
  refine xcVv E hs hQ hml hl.1 21 (tell_21 l g ad hD S3 f22 c_5 c_4) mX10_tell q592 (by decide) c_5 rfl rfl ⟨by decide, by decide⟩ ⟨by decide, by decide⟩ (Nat.le_of_ble_eq_true rfl) rfl dX1_clear_22 (fun S6 H locs hp6 hQ _ => ?_)
  obtain ⟨o6, v6_21, ⟨f6_22, v6_22⟩⟩ := hp6
  refine lv_aload_n hx hb dX1_clear_25 rfl (lv_at hl 0 rfl) ?_
  have c_7 : S6 20 = .inr (1, [.int 0, .int 0, .int 0, .ref (ad 21), .ref (ad 23), .ref (ad 24), .int 0, .int 0, .ref (ad 25), .ref (ad 26), .ref (ad 27), .ref (ad 28), .int 0, .ref (ad 33), .ref (ad 34)]) := ((o6 20 (by decide)).trans u3)
  refine xget E hQ 20 (by decide) c_7 rfl 4 (by decide) q257 rfl dX1_clear_26 ?_
  refine lv_iconst (v := 0) hx hb dX1_clear_29 (by decide) ?_
  have c_8 : S6 23 = .inl (g.2 0, 12, .inl f23) := ((o6 23 (by decide)).trans (up_ne e3 (by decide) (up_ne e2 (by decide) (up_ne e1 (by decide) h23))))
  refine xcSv E hs hQ hml hl.1 (uFillI l g ad _ hD S6 23 (by decide) 12 (by decide) f23 0 c_8) mJ7_fill_53178 q597 rfl ⟨by decide, by decide⟩ ⟨by decide, by decide⟩ (Nat.le_of_ble_eq_true rfl) rfl dX1_clear_30 (fun S9 H locs hp9 hQ => ?_)
  have e9 := hp9
  have u9 : S9 23 = .inl (g.2 0, 12, .inl (fillF 0 12 f23)) := up_at e9 rfl
  refine lv_aload_n hx hb dX1_clear_33 rfl (lv_at hl 0 rfl) ?_
  have c_10 : S9 20 = .inr (1, [.int 0, .int 0, .int 0, .ref (ad 21), .ref (ad 23), .ref (ad 24), .int 0, .int 0, .ref (ad 25), .ref (ad 26), .ref (ad 27), .ref (ad 28), .int 0, .ref (ad 33), .ref (ad 34)]) := (up_ne e9 (by decide) c_7)
  refine xget E hQ 20 (by decide) c_10 rfl 5 (by decide) q260 rfl dX1_clear_34 ?_
  refine lv_iconst (v := 0) hx hb dX1_clear_37 (by decide) ?_
  have c_11 : S9 24 = .inl (g.2 0, 12, .inl f24) := (up_ne e9 (by decide) ((o6 24 (by decide)).trans (up_ne e3 (by decide) (up_ne e2 (by decide) (up_ne e1 (by decide) h24)))))
  refine xcSv E hs hQ hml hl.1 (uFillI l g ad _ hD S9 24 (by decide) 12 (by decide) f24 0 c_11) mJ7_fill_53178 q597 rfl ⟨by decide, by decide⟩ ⟨by decide, by decide⟩ (Nat.le_of_ble_eq_true rfl) rfl dX1_clear_38 (fun S12 H locs hp12 hQ => ?_)
  have e12 := hp12
  have u12 : S12 24 = .inl (g.2 0, 12, .inl (fillF 0 12 f24)) := up_at e12 rfl
  refine lv_aload_n hx hb dX1_clear_41 rfl (lv_at hl 0 rfl) ?_
  refine lv_iconst (v := 0) hx hb dX1_clear_42 (by decide) ?_
  have c_13 : S12 20 = .inr (1, [.int 0, .int 0, .int 0, .ref (ad 21), .ref (ad 23), .ref (ad 24), .int 0, .int 0, .ref (ad 25), .ref (ad 26), .ref (ad 27), .ref (ad 28), .int 0, .ref (ad 33), .ref (ad 34)]) := (up_ne e12 (by decide) c_10)
  refine xputi E hs hQ 20 (by decide) c_13 rfl 6 (by decide) q263 rfl rfl (Nat.le_of_ble_eq_true rfl) dX1_clear_43 (fun H locs S14 e14 hQ => ?_)
  have u14 : S14 20 = .inr (1, [.int 0, .int 0, .int 0, .ref (ad 21), .ref (ad 23), .ref (ad 24), .int 0, .int 0, .ref (ad 25), .ref (ad 26), .ref (ad 27), .ref (ad 28), .int 0, .ref (ad 33), .ref (ad 34)]) := up_at e14 rfl
  refine lv_aload_n hx hb dX1_clear_46 rfl (lv_at hl 0 rfl) ?_
  refine lv_iconst (v := 0) hx hb dX1_clear_47 (by decide) ?_
  refine xputi E hs hQ 20 (by decide) u14 rfl 7 (by decide) q270 rfl rfl (Nat.le_of_ble_eq_true rfl) dX1_clear_48 (fun H locs S15 e15 hQ => ?_)
  have u15 : S15 20 = .inr (1, [.int 0, .int 0, .int 0, .ref (ad 21), .ref (ad 23), .ref (ad 24), .int 0, .int 0, .ref (ad 25), .ref (ad 26), .ref (ad 27), .ref (ad 28), .int 0, .ref (ad 33), .ref (ad 34)]) := up_at e15 rfl
  refine lv_aload_n hx hb dX1_clear_51 rfl (lv_at hl 0 rfl) ?_
  refine xget E hQ 20 (by decide) u15 rfl 11 (by decide) q289 rfl dX1_clear_52 ?_
  refine lv_iconst (v := 0) hx hb dX1_clear_55 (by decide) ?_
  have c_16 : S15 28 = .inr (6, [.int 0, .ref (ad 29), .ref (ad 30), .ref (ad 31), .ref (ad 32)]) := (up_ne e15 (by decide) (up_ne e14 (by decide) (up_ne e12 (by decide) (up_ne e9 (by decide) ((o6 28 (by decide)).trans (up_ne e3 (by decide) (up_ne e2 (by decide) (up_ne e1 (by decide) h28))))))))
  refine xputi E hs hQ 28 (by decide) c_16 rfl 0 (by decide) q187 rfl rfl (Nat.le_of_ble_eq_true rfl) dX1_clear_56 (fun H locs S17 e17 hQ => ?_)
  have u17 : S17 28 = .inr (6, [.int 0, .ref (ad 29), .ref (ad 30), .ref (ad 31), .ref (ad 32)]) := up_at e17 rfl
  refine lv_aload_n hx hb dX1_clear_59 rfl (lv_at hl 0 rfl) ?_
  refine lv_iconst (v := 0) hx hb dX1_clear_60 (by decide) ?_
  have c_18 : S17 20 = .inr (1, [.int 0, .int 0, .int 0, .ref (ad 21), .ref (ad 23), .ref (ad 24), .int 0, .int 0, .ref (ad 25), .ref (ad 26), .ref (ad 27), .ref (ad 28), .int 0, .ref (ad 33), .ref (ad 34)]) := (up_ne e17 (by decide) u15)
  refine xputi E hs hQ 20 (by decide) c_18 rfl 12 (by decide) q293 rfl rfl (Nat.le_of_ble_eq_true rfl) dX1_clear_61 (fun H locs S19 e19 hQ => ?_)
  have u19 : S19 20 = .inr (1, [.int 0, .int 0, .int 0, .ref (ad 21), .ref (ad 23), .ref (ad 24), .int 0, .int 0, .ref (ad 25), .ref (ad 26), .ref (ad 27), .ref (ad 28), .int 0, .ref (ad 33), .ref (ad 34)]) := up_at e19 rfl
  refine lv_aload_n hx hb dX1_clear_64 rfl (lv_at hl 0 rfl) ?_
  refine xget E hQ 20 (by decide) u19 rfl 14 (by decide) q301 rfl dX1_clear_65 ?_
  refine lv_iconst (v := 0) hx hb dX1_clear_68 (by decide) ?_
  have c_20 : S19 34 = .inr (0, [.int 0, .ref (ad 35), .ref (ad 36), .ref (ad 37)]) := (up_ne e19 (by decide) (up_ne e17 (by decide) (up_ne e15 (by decide) (up_ne e14 (by decide) (up_ne e12 (by decide) (up_ne e9 (by decide) ((o6 34 (by decide)).trans (up_ne e3 (by decide) (up_ne e2 (by decide) (up_ne e1 (by decide) h34))))))))))
  refine xputi E hs hQ 34 (by decide) c_20 rfl 0 (by decide) q216 rfl rfl (Nat.le_of_ble_eq_true rfl) dX1_clear_69 (fun H locs S21 e21 hQ => ?_)
  have u21 : S21 34 = .inr (0, [.int 0, .ref (ad 35), .ref (ad 36), .ref (ad 37)]) := up_at e21 rfl
  have c_22 : S21 20 = .inr (1, [.int 0, .int 0, .int 0, .ref (ad 21), .ref (ad 23), .ref (ad 24), .int 0, .int 0, .ref (ad 25), .ref (ad 26), .ref (ad 27), .ref (ad 28), .int 0, .ref (ad 33), .ref (ad 34)]) := (up_ne e21 (by decide) u19)
  have c_23 : S21 21 = .inr (10, [.int 0, .int 0, .int 0, .int 0, .ref (ad 22)]) := (up_ne e21 (by decide) (up_ne e19 (by decide) (up_ne e17 (by decide) (up_ne e15 (by decide) (up_ne e14 (by decide) (up_ne e12 (by decide) (up_ne e9 (by decide) v6_21)))))))
  have c_24 : S21 22 = .inl (g.2 0, 36, .inl f6_22) := (up_ne e21 (by decide) (up_ne e19 (by decide) (up_ne e17 (by decide) (up_ne e15 (by decide) (up_ne e14 (by decide) (up_ne e12 (by decide) (up_ne e9 (by decide) v6_22)))))))
  have c_25 : S21 23 = .inl (g.2 0, 12, .inl (fillF 0 12 f23)) := (up_ne e21 (by decide) (up_ne e19 (by decide) (up_ne e17 (by decide) (up_ne e15 (by decide) (up_ne e14 (by decide) (up_ne e12 (by decide) u9))))))
  have c_26 : S21 24 = .inl (g.2 0, 12, .inl (fillF 0 12 f24)) := (up_ne e21 (by decide) (up_ne e19 (by decide) (up_ne e17 (by decide) (up_ne e15 (by decide) (up_ne e14 (by decide) u12)))))
  have c_27 : S21 28 = .inr (6, [.int 0, .ref (ad 29), .ref (ad 30), .ref (ad 31), .ref (ad 32)]) := (up_ne e21 (by decide) (up_ne e19 (by decide) u17))
  exact xrv E hr hlk hQ (⟨fun j hj => (up_ne e21 (fun h => hj (by subst h; decide)) (up_ne e19 (fun h => hj (by subst h; decide)) (up_ne e17 (fun h => hj (by subst h; decide)) (up_ne e15 (fun h => hj (by subst h; decide)) (up_ne e14 (fun h => hj (by subst h; decide)) (up_ne e12 (fun h => hj (by subst h; decide)) (up_ne e9 (fun h => hj (by subst h; decide)) ((o6 j (fun h => hj ((by decide : ∀ x ∈ ([21, 22] : List Nat), x ∈ ([20, 21, 22, 23, 24, 28, 34] : List Nat)) j h))).trans (up_ne e3 (fun h => hj (by subst h; decide)) (up_ne e2 (fun h => hj (by subst h; decide)) (up_ne e1 (fun h => hj (by subst h; decide)) rfl))))))))))), c_22, c_23, ⟨_, c_24⟩, ⟨_, c_25⟩, ⟨_, c_26⟩, c_27, u21⟩) dX1_clear_72
set_option maxHeartbeats 4000000 in
set_option maxRecDepth 100000 in
theorem advance_0 (l : Launch) (g : GG) (ad : Nat → Nat) (hD : Dj ad 122) (S : SS) (h94 : S 94 = .inr (5, [.ref (ad 1), .ref (ad 20), .int 0, .int 0, .int 0, .int 0, .int 0, .int 0, .int (-1)])) : Met l yX5_advance (wG (.code yX5_advance cX5_advance 1 none)) (Rm 0) (XPre g ad 122 S [.ref (ad 94)]) (va_Qv (fun S' => (∀ j, j ∉ ([94] : List Nat) → S' j = S j) ∧ S' 94 = .inr (5, [.ref (ad 1), .ref (ad 20), .int 0, .int 0, .int 0, .int 0, .int 0, .int 0, .int (-1)])) (QB g ad 122) (FA ad 122)) 0 0 (FA ad 122) := by
  refine xmet cX5_advance "EbbWreck$Reader" (by decide) rfl (Nat.le_of_ble_eq_true rfl) (fun p e s m below meth c E hr hlk hml hQ ls hl => ?_)
  have hx := E.1
  have hb := E.2.1
  have hs : Sp ad 122 (FA ad 122) := Sp.fa hD
  have hl : lv_has ls 1 [(0, .ref (ad 94))] := hl
  refine lv_aload_n hx hb dX5_advance_0 rfl (lv_at hl 0 rfl) ?_
  refine lv_aload_n hx hb dX5_advance_1 rfl (lv_at hl 0 rfl) ?_
  refine xget E hQ 94 (by decide) h94 rfl 5 (by decide) q347 rfl dX5_advance_2 ?_
  refine xputi E hs hQ 94 (by decide) h94 rfl 4 (by decide) q346 rfl rfl (Nat.le_of_ble_eq_true rfl) dX5_advance_5 (fun H locs S1 e1 hQ => ?_)
  have u1 : S1 94 = .inr (5, [.ref (ad 1), .ref (ad 20), .int 0, .int 0, .int 0, .int 0, .int 0, .int 0, .int (-1)]) := up_at e1 rfl
  refine lv_aload_n hx hb dX5_advance_8 rfl (lv_at hl 0 rfl) ?_
  refine xget E hQ 94 (by decide) u1 rfl 4 (by decide) q346 rfl dX5_advance_9 ?_
  refine lv_aload_n hx hb dX5_advance_12 rfl (lv_at hl 0 rfl) ?_
  refine xget E hQ 94 (by decide) u1 rfl 2 (by decide) q344 rfl dX5_advance_13 ?_
  refine lv_icmp_ge (tgt := 48) hx hb dX5_advance_16 (by decide) (fun k_2 => ?_) (fun k_2 => absurd k_2 (by decide))
  refine lv_aload_n hx hb dX5_advance_48 rfl (lv_at hl 0 rfl) ?_
  refine lv_aload_n hx hb dX5_advance_49 rfl (lv_at hl 0 rfl) ?_
  refine xget E hQ 94 (by decide) u1 rfl 4 (by decide) q346 rfl dX5_advance_50 ?_
  refine xputi E hs hQ 94 (by decide) u1 rfl 5 (by decide) q347 rfl rfl (Nat.le_of_ble_eq_true rfl) dX5_advance_53 (fun H locs S3 e3 hQ => ?_)
  have u3 : S3 94 = .inr (5, [.ref (ad 1), .ref (ad 20), .int 0, .int 0, .int 0, .int 0, .int 0, .int 0, .int (-1)]) := up_at e3 rfl
  refine lv_aload_n hx hb dX5_advance_56 rfl (lv_at hl 0 rfl) ?_
  refine lv_iconst (v := 0) hx hb dX5_advance_57 (by decide) ?_
  refine xputi E hs hQ 94 (by decide) u3 rfl 6 (by decide) q348 rfl rfl (Nat.le_of_ble_eq_true rfl) dX5_advance_58 (fun H locs S4 e4 hQ => ?_)
  have u4 : S4 94 = .inr (5, [.ref (ad 1), .ref (ad 20), .int 0, .int 0, .int 0, .int 0, .int 0, .int 0, .int (-1)]) := up_at e4 rfl
  refine lv_aload_n hx hb dX5_advance_61 rfl (lv_at hl 0 rfl) ?_
  refine lv_aload_n hx hb dX5_advance_62 rfl (lv_at hl 0 rfl) ?_
  refine xget E hQ 94 (by decide) u4 rfl 4 (by decide) q346 rfl dX5_advance_63 ?_
  refine lv_aload_n hx hb dX5_advance_66 rfl (lv_at hl 0 rfl) ?_
  refine xget E hQ 94 (by decide) u4 rfl 2 (by decide) q344 rfl dX5_advance_67 ?_
  refine lv_icmp_ge (tgt := 88) hx hb dX5_advance_70 (by decide) (fun k_5 => ?_) (fun k_5 => absurd k_5 (by decide))
  refine lv_iconst (v := 0) hx hb dX5_advance_88 (by decide) ?_
  refine xputi E hs hQ 94 (by decide) u4 rfl 3 (by decide) q345 rfl rfl (Nat.le_of_ble_eq_true rfl) dX5_advance_89 (fun H locs S6 e6 hQ => ?_)
  have u6 : S6 94 = .inr (5, [.ref (ad 1), .ref (ad 20), .int 0, .int 0, .int 0, .int 0, .int 0, .int 0, .int (-1)]) := up_at e6 rfl
  refine lv_aload_n hx hb dX5_advance_92 rfl (lv_at hl 0 rfl) ?_
  refine xget E hQ 94 (by decide) u6 rfl 5 (by decide) q347 rfl dX5_advance_93 ?_
  refine lv_aload_n hx hb dX5_advance_96 rfl (lv_at hl 0 rfl) ?_
  refine xget E hQ 94 (by decide) u6 rfl 2 (by decide) q344 rfl dX5_advance_97 ?_
  refine lv_icmp_ge (tgt := 190) hx hb dX5_advance_100 (by decide) (fun k_7 => ?_) (fun k_7 => absurd k_7 (by decide))
  exact xrv E hr hlk hQ (⟨fun j hj => (up_ne e6 (fun h => hj (by subst h; decide)) (up_ne e4 (fun h => hj (by subst h; decide)) (up_ne e3 (fun h => hj (by subst h; decide)) (up_ne e1 (fun h => hj (by subst h; decide)) rfl)))), u6⟩) dX5_advance_190
set_option maxHeartbeats 4000000 in
set_option maxRecDepth 100000 in
theorem read_0 (l : Launch) (g : GG) (ad : Nat → Nat) (hD : Dj ad 122) (S : SS) (f22 : Nat → Int32) (f23 : Nat → Int32) (f24 : Nat → Int32) (f1 : Nat → Int32) (h20 : S 20 = .inr (1, [.int 0, .int 0, .int 0, .ref (ad 21), .ref (ad 23), .ref (ad 24), .int 0, .int 0, .ref (ad 25), .ref (ad 26), .ref (ad 27), .ref (ad 28), .int 0, .ref (ad 33), .ref (ad 34)])) (h21 : S 21 = .inr (10, [.int 0, .int 0, .int 0, .int 0, .ref (ad 22)])) (h22 : S 22 = .inl (g.2 0, 36, .inl f22)) (h23 : S 23 = .inl (g.2 0, 12, .inl f23)) (h24 : S 24 = .inl (g.2 0, 12, .inl f24)) (h28 : S 28 = .inr (6, [.int 0, .ref (ad 29), .ref (ad 30), .ref (ad 31), .ref (ad 32)])) (h34 : S 34 = .inr (0, [.int 0, .ref (ad 35), .ref (ad 36), .ref (ad 37)])) (h94 : S 94 = .inr (5, [.ref (ad 1), .ref (ad 20), .int 0, .int 0, .int 0, .int 0, .int 0, .int 0, .int 0])) (h1 : S 1 = .inl (g.2 1, 1200, .inl f1)) : Met l yX5_read (wG (.code yX5_read cX5_read 3 none)) (Rm 3) (XPre g ad 122 S [.ref (ad 94), .int 0]) (va_Qv (fun S' => (∀ j, j ∉ ([94, 20, 21, 22, 23, 24, 28, 34] : List Nat) → S' j = S j) ∧ S' 94 = .inr (5, [.ref (ad 1), .ref (ad 20), .int 0, .int 0, .int 0, .int 0, .int 0, .int 0, .int (-1)]) ∧ S' 20 = .inr (1, [.int 0, .int 0, .int 0, .ref (ad 21), .ref (ad 23), .ref (ad 24), .int 0, .int 0, .ref (ad 25), .ref (ad 26), .ref (ad 27), .ref (ad 28), .int 0, .ref (ad 33), .ref (ad 34)]) ∧ S' 21 = .inr (10, [.int 0, .int 0, .int 0, .int 0, .ref (ad 22)]) ∧ (∃ f : Nat → Int32, S' 22 = .inl (g.2 0, 36, .inl f)) ∧ (∃ f : Nat → Int32, S' 23 = .inl (g.2 0, 12, .inl f)) ∧ (∃ f : Nat → Int32, S' 24 = .inl (g.2 0, 12, .inl f)) ∧ S' 28 = .inr (6, [.int 0, .ref (ad 29), .ref (ad 30), .ref (ad 31), .ref (ad 32)]) ∧ S' 34 = .inr (0, [.int 0, .ref (ad 35), .ref (ad 36), .ref (ad 37)])) (QB g ad 122) (FA ad 122)) 0 0 (FA ad 122) := by
  refine xmet cX5_read "EbbWreck$Reader" (by decide) rfl (Nat.le_of_ble_eq_true rfl) (fun p e s m below meth c E hr hlk hml hQ ls hl => ?_)
  have hx := E.1
  have hb := E.2.1
  have hs : Sp ad 122 (FA ad 122) := Sp.fa hD
  have hl : lv_has ls 3 [(0, .ref (ad 94)), (1, .int 0)] := hl
  refine lv_aload_n hx hb dX5_read_0 rfl (lv_at hl 0 rfl) ?_
  refine lv_iconst (v := 0) hx hb dX5_read_1 (by decide) ?_
  refine lv_iload_n hx hb dX5_read_2 rfl (lv_at hl 1 rfl) ?_
  refine lv_aload_n hx hb dX5_read_3 rfl (lv_at hl 0 rfl) ?_
  refine xget E hQ 94 (by decide) h94 rfl 0 (by decide) q342 rfl dX5_read_4 ?_
  refine xalen (v := 1200) E hQ 1 (by decide) 1 h1 rfl rfl dX5_read_7 ?_
  refine va_mmin hx hb (hml.trans hl.1.symm) E.2.2.1 (E.2.2.2.1 _ q582) (E.2.2.2.1 _ q583) (E.2.2.2.1 _ q128) (E.2.2.2.1 _ q584) (Nat.le_of_ble_eq_true rfl) (Nat.le_of_ble_eq_true rfl) (Nat.le_of_ble_eq_true rfl) (Nat.le_of_ble_eq_true rfl) dX5_read_8 ?_
  refine sb_at (P := fun z => W _ _ _ _ _ _ _ _ _ _ _ _ _ _ _ (F0 _ _ _ (.int z :: _))) (show (if (1200 : Int32) < 0 then (1200 : Int32) else 0) = 0 by decide) ?_
  refine va_mmax hx hb (hml.trans hl.1.symm) E.2.2.1 (E.2.2.2.1 _ q585) (E.2.2.2.1 _ q586) (E.2.2.2.1 _ q128) (E.2.2.2.1 _ q587) (Nat.le_of_ble_eq_true rfl) (Nat.le_of_ble_eq_true rfl) (Nat.le_of_ble_eq_true rfl) (Nat.le_of_ble_eq_true rfl) dX5_read_11 ?_
  refine sb_at (P := fun z => W _ _ _ _ _ _ _ _ _ _ _ _ _ _ _ (F0 _ _ _ (.int z :: _))) (show (if (0 : Int32) < 0 then (0 : Int32) else 0) = 0 by decide) ?_
  refine xputi E hs hQ 94 (by decide) h94 rfl 2 (by decide) q344 rfl rfl (Nat.le_of_ble_eq_true rfl) dX5_read_14 (fun H locs S1 e1 hQ => ?_)
  have u1 : S1 94 = .inr (5, [.ref (ad 1), .ref (ad 20), .int 0, .int 0, .int 0, .int 0, .int 0, .int 0, .int 0]) := up_at e1 rfl
  refine lv_aload_n hx hb dX5_read_17 rfl (lv_at hl 0 rfl) ?_
  refine lv_iconst (v := 0) hx hb dX5_read_18 (by decide) ?_
  refine xputi E hs hQ 94 (by decide) u1 rfl 5 (by decide) q347 rfl rfl (Nat.le_of_ble_eq_true rfl) dX5_read_19 (fun H locs S2 e2 hQ => ?_)
  have u2 : S2 94 = .inr (5, [.ref (ad 1), .ref (ad 20), .int 0, .int 0, .int 0, .int 0, .int 0, .int 0, .int 0]) := up_at e2 rfl
  refine lv_aload_n hx hb dX5_read_22 rfl (lv_at hl 0 rfl) ?_
  refine lv_iconst (v := 0) hx hb dX5_read_23 (by decide) ?_
  refine xputi E hs hQ 94 (by decide) u2 rfl 7 (by decide) q349 rfl rfl (Nat.le_of_ble_eq_true rfl) dX5_read_24 (fun H locs S3 e3 hQ => ?_)
  have u3 : S3 94 = .inr (5, [.ref (ad 1), .ref (ad 20), .int 0, .int 0, .int 0, .int 0, .int 0, .int 0, .int 0]) := up_at e3 rfl
  refine lv_aload_n hx hb dX5_read_27 rfl (lv_at hl 0 rfl) ?_
  refine lv_iconst (v := (-1)) hx hb dX5_read_28 (by decide) ?_
  refine xputi E hs hQ 94 (by decide) u3 rfl 8 (by decide) q351 rfl rfl (Nat.le_of_ble_eq_true rfl) dX5_read_29 (fun H locs S4 e4 hQ => ?_)
  have u4 : S4 94 = .inr (5, [.ref (ad 1), .ref (ad 20), .int 0, .int 0, .int 0, .int 0, .int 0, .int 0, .int (-1)]) := up_at e4 rfl
  refine lv_aload_n hx hb dX5_read_32 rfl (lv_at hl 0 rfl) ?_
  refine xget E hQ 94 (by decide) u4 rfl 1 (by decide) q343 rfl dX5_read_33 ?_
  have c_5 : S4 22 = .inl (g.2 0, 36, .inl f22) := (up_ne e4 (by decide) (up_ne e3 (by decide) (up_ne e2 (by decide) (up_ne e1 (by decide) h22))))
  have c_6 : S4 23 = .inl (g.2 0, 12, .inl f23) := (up_ne e4 (by decide) (up_ne e3 (by decide) (up_ne e2 (by decide) (up_ne e1 (by decide) h23))))
  have c_7 : S4 24 = .inl (g.2 0, 12, .inl f24) := (up_ne e4 (by decide) (up_ne e3 (by decide) (up_ne e2 (by decide) (up_ne e1 (by decide) h24))))
  have c_8 : S4 20 = .inr (1, [.int 0, .int 0, .int 0, .ref (ad 21), .ref (ad 23), .ref (ad 24), .int 0, .int 0, .ref (ad 25), .ref (ad 26), .ref (ad 27), .ref (ad 28), .int 0, .ref (ad 33), .ref (ad 34)]) := (up_ne e4 (by decide) (up_ne e3 (by decide) (up_ne e2 (by decide) (up_ne e1 (by decide) h20))))
  have c_9 : S4 21 = .inr (10, [.int 0, .int 0, .int 0, .int 0, .ref (ad 22)]) := (up_ne e4 (by decide) (up_ne e3 (by decide) (up_ne e2 (by decide) (up_ne e1 (by decide) h21))))
  have c_10 : S4 28 = .inr (6, [.int 0, .ref (ad 29), .ref (ad 30), .ref (ad 31), .ref (ad 32)]) := (up_ne e4 (by decide) (up_ne e3 (by decide) (up_ne e2 (by decide) (up_ne e1 (by decide) h28))))
  have c_11 : S4 34 = .inr (0, [.int 0, .ref (ad 35), .ref (ad 36), .ref (ad 37)]) := (up_ne e4 (by decide) (up_ne e3 (by decide) (up_ne e2 (by decide) (up_ne e1 (by decide) h34))))
  refine xcVv E hs hQ hml hl.1 20 (clear_20 l g ad hD S4 f22 f23 f24 c_8 c_9 c_5 c_6 c_7 c_10 c_11) mX1_clear q588 (by decide) c_8 rfl rfl ⟨by decide, by decide⟩ ⟨by decide, by decide⟩ (Nat.le_of_ble_eq_true rfl) rfl dX5_read_36 (fun S12 H locs hp12 hQ _ => ?_)
  obtain ⟨o12, v12_20, v12_21, ⟨f12_22, v12_22⟩, ⟨f12_23, v12_23⟩, ⟨f12_24, v12_24⟩, v12_28, v12_34⟩ := hp12
  refine lv_aload_n hx hb dX5_read_39 rfl (lv_at hl 0 rfl) ?_
  have c_13 : S12 94 = .inr (5, [.ref (ad 1), .ref (ad 20), .int 0, .int 0, .int 0, .int 0, .int 0, .int 0, .int (-1)]) := ((o12 94 (by decide)).trans u4)
  refine xcVv E hs hQ hml hl.1 94 (advance_0 l g ad hD S12 c_13) mX5_advance q598 (by decide) c_13 rfl rfl ⟨by decide, by decide⟩ ⟨by decide, by decide⟩ (Nat.le_of_ble_eq_true rfl) rfl dX5_read_40 (fun S14 H locs hp14 hQ _ => ?_)
  obtain ⟨o14, v14_94⟩ := hp14
  refine lv_iconst (v := 0) hx hb dX5_read_43 (by decide) ?_
  refine lv_istore_n (lv' := [(2, .int 0), (0, .ref (ad 94)), (1, .int 0)]) hx hb dX5_read_44 rfl hl (by decide) rfl (fun ls hl => ?_)
  refine lv_iload_n hx hb dX5_read_45 rfl (lv_at hl 0 rfl) ?_
  refine lv_sipush (v := 1200) hx hb dX5_read_46 (by decide) ?_
  refine lv_icmp_gt (tgt := 93) hx hb dX5_read_49 (by decide) (fun k_15 => absurd k_15 (by decide)) (fun k_15 => ?_)
  refine lv_aload_n hx hb dX5_read_52 rfl (lv_at hl 1 rfl) ?_
  refine xget E hQ 94 (by decide) v14_94 rfl 3 (by decide) q345 rfl dX5_read_53 ?_
  refine lv_if_eq (tgt := 93) hx hb dX5_read_56 (by decide) (fun k_16 => ?_) (fun k_16 => absurd k_16 (by decide))
  have c_17 : S14 20 = .inr (1, [.int 0, .int 0, .int 0, .ref (ad 21), .ref (ad 23), .ref (ad 24), .int 0, .int 0, .ref (ad 25), .ref (ad 26), .ref (ad 27), .ref (ad 28), .int 0, .ref (ad 33), .ref (ad 34)]) := ((o14 20 (by decide)).trans v12_20)
  have c_18 : S14 21 = .inr (10, [.int 0, .int 0, .int 0, .int 0, .ref (ad 22)]) := ((o14 21 (by decide)).trans v12_21)
  have c_19 : S14 22 = .inl (g.2 0, 36, .inl f12_22) := ((o14 22 (by decide)).trans v12_22)
  have c_20 : S14 23 = .inl (g.2 0, 12, .inl f12_23) := ((o14 23 (by decide)).trans v12_23)
  have c_21 : S14 24 = .inl (g.2 0, 12, .inl f12_24) := ((o14 24 (by decide)).trans v12_24)
  have c_22 : S14 28 = .inr (6, [.int 0, .ref (ad 29), .ref (ad 30), .ref (ad 31), .ref (ad 32)]) := ((o14 28 (by decide)).trans v12_28)
  have c_23 : S14 34 = .inr (0, [.int 0, .ref (ad 35), .ref (ad 36), .ref (ad 37)]) := ((o14 34 (by decide)).trans v12_34)
  exact xrv E hr hlk hQ (⟨fun j hj => ((o14 j (fun h => hj ((by decide : ∀ x ∈ ([94] : List Nat), x ∈ ([94, 20, 21, 22, 23, 24, 28, 34] : List Nat)) j h))).trans ((o12 j (fun h => hj ((by decide : ∀ x ∈ ([20, 21, 22, 23, 24, 28, 34] : List Nat), x ∈ ([94, 20, 21, 22, 23, 24, 28, 34] : List Nat)) j h))).trans (up_ne e4 (fun h => hj (by subst h; decide)) (up_ne e3 (fun h => hj (by subst h; decide)) (up_ne e2 (fun h => hj (by subst h; decide)) (up_ne e1 (fun h => hj (by subst h; decide)) rfl)))))), v14_94, c_17, c_18, ⟨_, c_19⟩, ⟨_, c_20⟩, ⟨_, c_21⟩, c_22, c_23⟩) dX5_read_93
set_option maxHeartbeats 4000000 in
set_option maxRecDepth 100000 in
theorem settleAll_0 (l : Launch) (g : GG) (ad : Nat → Nat) (hD : Dj ad 122) (S : SS) (h95 : S 95 = .inr (2, [.ref (ad 2), .ref (ad 96), .ref (ad 97), .ref (ad 98), .ref (ad 99), .ref (ad 100), .ref (ad 101), .int 0, .int 0])) (h2 : S 2 = .inr (1, [.int 0, .int 0, .int 0, .ref (ad 3), .ref (ad 5), .ref (ad 6), .int 0, .int 0, .ref (ad 7), .ref (ad 8), .ref (ad 9), .ref (ad 10), .int 0, .ref (ad 15), .ref (ad 16)])) : Met l yX2_settleAll (wG (.code yX2_settleAll cX2_settleAll 2 none)) (Rm 0) (XPre g ad 122 S [.ref (ad 95)]) (va_Qv (fun S' => (∀ j, j ∉ ([] : List Nat) → S' j = S j)) (QB g ad 122) (FA ad 122)) 0 0 (FA ad 122) := by
  refine xmet cX2_settleAll "EbbWreck$Drift" (by decide) rfl (Nat.le_of_ble_eq_true rfl) (fun p e s m below meth c E hr hlk hml hQ ls hl => ?_)
  have hx := E.1
  have hb := E.2.1
  have hs : Sp ad 122 (FA ad 122) := Sp.fa hD
  have hl : lv_has ls 2 [(0, .ref (ad 95))] := hl
  refine lv_iconst (v := 0) hx hb dX2_settleAll_0 (by decide) ?_
  refine lv_istore_n (lv' := [(1, .int 0), (0, .ref (ad 95))]) hx hb dX2_settleAll_1 rfl hl (by decide) rfl (fun ls hl => ?_)
  refine lv_iload_n hx hb dX2_settleAll_2 rfl (lv_at hl 0 rfl) ?_
  refine lv_aload_n hx hb dX2_settleAll_3 rfl (lv_at hl 1 rfl) ?_
  refine xget E hQ 95 (by decide) h95 rfl 0 (by decide) q379 rfl dX2_settleAll_4 ?_
  refine xget E hQ 2 (by decide) h2 rfl 7 (by decide) q268 rfl dX2_settleAll_7 ?_
  refine lv_icmp_ge (tgt := 24) hx hb dX2_settleAll_10 (by decide) (fun k_1 => ?_) (fun k_1 => absurd k_1 (by decide))
  exact xrv E hr hlk hQ (fun j hj => rfl) dX2_settleAll_24
set_option maxHeartbeats 4000000 in
set_option maxRecDepth 100000 in
theorem fX11_shore (l : Launch) (g : GG) (ad : Nat → Nat) (hD : Dj ad 122) (S : SS) (hX : ∀ i, i < 122 → S i = X0 g ad i) : Met l yX11_shore (wG (.code yX11_shore cX11_shore 1 (some .int))) (Rm 4) (XPre g ad 122 S [.ref (ad 0)]) (va_Qi (fun r _ => r = 0) (QB g ad 122) (FA ad 122)) 0 0 (FA ad 122) := by
  refine xmet cX11_shore "EbbWreck" (by decide) rfl (Nat.le_of_ble_eq_true rfl) (fun p e s m below meth c E hr hlk hml hQ ls hl => ?_)
  have hx := E.1
  have hb := E.2.1
  have hs : Sp ad 122 (FA ad 122) := Sp.fa hD
  have hl : lv_has ls 1 [(0, .ref (ad 0))] := hl
  refine lv_aload_n hx hb dX11_shore_0 rfl (lv_at hl 0 rfl) ?_
  have c_1 : S 0 = .inr (11, [.ref (ad 1), .int 0, .int 0, .int (-1), .ref (ad 2), .ref (ad 20), .ref (ad 38), .ref (ad 93), .ref (ad 94), .ref (ad 95), .ref (ad 102), .ref (ad 104), .ref (ad 107), .ref (ad 111), .ref (ad 119)]) := (hX 0 (by decide))
  refine xget E hQ 0 (by decide) c_1 rfl 8 (by decide) q524 rfl dX11_shore_1 ?_
  refine lv_aload_n hx hb dX11_shore_4 rfl (lv_at hl 0 rfl) ?_
  refine xget E hQ 0 (by decide) c_1 rfl 1 (by decide) q517 rfl dX11_shore_5 ?_
  have c_2 : S 22 = .inl (g.2 0, 36, .inl zf) := (hX 22 (by decide))
  have c_3 : S 23 = .inl (g.2 0, 12, .inl zf) := (hX 23 (by decide))
  have c_4 : S 24 = .inl (g.2 0, 12, .inl zf) := (hX 24 (by decide))
  have c_5 : S 1 = .inl (g.2 1, 1200, .inl zf) := (hX 1 (by decide))
  have c_6 : S 20 = .inr (1, [.int 0, .int 0, .int 0, .ref (ad 21), .ref (ad 23), .ref (ad 24), .int 0, .int 0, .ref (ad 25), .ref (ad 26), .ref (ad 27), .ref (ad 28), .int 0, .ref (ad 33), .ref (ad 34)]) := (hX 20 (by decide))
  have c_7 : S 21 = .inr (10, [.int 0, .int 0, .int 0, .int 0, .ref (ad 22)]) := (hX 21 (by decide))
  have c_8 : S 28 = .inr (6, [.int 0, .ref (ad 29), .ref (ad 30), .ref (ad 31), .ref (ad 32)]) := (hX 28 (by decide))
  have c_9 : S 34 = .inr (0, [.int 0, .ref (ad 35), .ref (ad 36), .ref (ad 37)]) := (hX 34 (by decide))
  have c_10 : S 94 = .inr (5, [.ref (ad 1), .ref (ad 20), .int 0, .int 0, .int 0, .int 0, .int 0, .int 0, .int 0]) := (hX 94 (by decide))
  refine xcVv E hs hQ hml hl.1 94 (read_0 l g ad hD S zf zf zf zf c_6 c_7 c_2 c_3 c_4 c_8 c_9 c_10 c_5) mX5_read q578 (by decide) c_10 rfl rfl ⟨by decide, by decide⟩ ⟨by decide, by decide⟩ (Nat.le_of_ble_eq_true rfl) rfl dX11_shore_8 (fun S11 H locs hp11 hQ _ => ?_)
  obtain ⟨o11, v11_94, v11_20, v11_21, ⟨f11_22, v11_22⟩, ⟨f11_23, v11_23⟩, ⟨f11_24, v11_24⟩, v11_28, v11_34⟩ := hp11
  refine lv_aload_n hx hb dX11_shore_11 rfl (lv_at hl 0 rfl) ?_
  refine lv_aload_n hx hb dX11_shore_12 rfl (lv_at hl 0 rfl) ?_
  have c_12 : S11 0 = .inr (11, [.ref (ad 1), .int 0, .int 0, .int (-1), .ref (ad 2), .ref (ad 20), .ref (ad 38), .ref (ad 93), .ref (ad 94), .ref (ad 95), .ref (ad 102), .ref (ad 104), .ref (ad 107), .ref (ad 111), .ref (ad 119)]) := ((o11 0 (by decide)).trans c_1)
  refine xget E hQ 0 (by decide) c_12 rfl 8 (by decide) q524 rfl dX11_shore_13 ?_
  refine xget E hQ 94 (by decide) v11_94 rfl 7 (by decide) q350 rfl dX11_shore_16 ?_
  refine xputi E hs hQ 0 (by decide) c_12 rfl 2 (by decide) q518 rfl rfl (Nat.le_of_ble_eq_true rfl) dX11_shore_19 (fun H locs S13 e13 hQ => ?_)
  have u13 : S13 0 = .inr (11, [.ref (ad 1), .int 0, .int 0, .int (-1), .ref (ad 2), .ref (ad 20), .ref (ad 38), .ref (ad 93), .ref (ad 94), .ref (ad 95), .ref (ad 102), .ref (ad 104), .ref (ad 107), .ref (ad 111), .ref (ad 119)]) := up_at e13 rfl
  refine lv_aload_n hx hb dX11_shore_22 rfl (lv_at hl 0 rfl) ?_
  refine lv_aload_n hx hb dX11_shore_23 rfl (lv_at hl 0 rfl) ?_
  refine xget E hQ 0 (by decide) u13 rfl 8 (by decide) q524 rfl dX11_shore_24 ?_
  have c_14 : S13 94 = .inr (5, [.ref (ad 1), .ref (ad 20), .int 0, .int 0, .int 0, .int 0, .int 0, .int 0, .int (-1)]) := (up_ne e13 (by decide) v11_94)
  refine xget E hQ 94 (by decide) c_14 rfl 8 (by decide) q352 rfl dX11_shore_27 ?_
  refine xputi E hs hQ 0 (by decide) u13 rfl 3 (by decide) q519 rfl rfl (Nat.le_of_ble_eq_true rfl) dX11_shore_30 (fun H locs S15 e15 hQ => ?_)
  have u15 : S15 0 = .inr (11, [.ref (ad 1), .int 0, .int 0, .int (-1), .ref (ad 2), .ref (ad 20), .ref (ad 38), .ref (ad 93), .ref (ad 94), .ref (ad 95), .ref (ad 102), .ref (ad 104), .ref (ad 107), .ref (ad 111), .ref (ad 119)]) := up_at e15 rfl
  refine lv_aload_n hx hb dX11_shore_33 rfl (lv_at hl 0 rfl) ?_
  refine xget E hQ 0 (by decide) u15 rfl 2 (by decide) q518 rfl dX11_shore_34 ?_
  refine lv_if_eq (tgt := 43) hx hb dX11_shore_37 (by decide) (fun k_16 => ?_) (fun k_16 => absurd k_16 (by decide))
  refine lv_aload_n hx hb dX11_shore_43 rfl (lv_at hl 0 rfl) ?_
  refine xget E hQ 0 (by decide) u15 rfl 4 (by decide) q520 rfl dX11_shore_44 ?_
  refine lv_aload_n hx hb dX11_shore_47 rfl (lv_at hl 0 rfl) ?_
  refine xget E hQ 0 (by decide) u15 rfl 5 (by decide) q521 rfl dX11_shore_48 ?_
  have c_17 : S15 4 = .inl (g.2 0, 36, .inl zf) := (up_ne e15 (by decide) (up_ne e13 (by decide) ((o11 4 (by decide)).trans (hX 4 (by decide)))))
  have c_18 : S15 5 = .inl (g.2 0, 12, .inl zf) := (up_ne e15 (by decide) (up_ne e13 (by decide) ((o11 5 (by decide)).trans (hX 5 (by decide)))))
  have c_19 : S15 6 = .inl (g.2 0, 12, .inl zf) := (up_ne e15 (by decide) (up_ne e13 (by decide) ((o11 6 (by decide)).trans (hX 6 (by decide)))))
  have c_20 : S15 7 = .inl (g.2 0, 8, .inl zf) := (up_ne e15 (by decide) (up_ne e13 (by decide) ((o11 7 (by decide)).trans (hX 7 (by decide)))))
  have c_21 : S15 8 = .inl (g.2 0, 8, .inl zf) := (up_ne e15 (by decide) (up_ne e13 (by decide) ((o11 8 (by decide)).trans (hX 8 (by decide)))))
  have c_22 : S15 9 = .inl (g.2 0, 8, .inl zf) := (up_ne e15 (by decide) (up_ne e13 (by decide) ((o11 9 (by decide)).trans (hX 9 (by decide)))))
  have c_23 : S15 15 = .inl (g.2 0, 3, .inl zf) := (up_ne e15 (by decide) (up_ne e13 (by decide) ((o11 15 (by decide)).trans (hX 15 (by decide)))))
  have c_24 : S15 23 = .inl (g.2 0, 12, .inl f11_23) := (up_ne e15 (by decide) (up_ne e13 (by decide) v11_23))
  have c_25 : S15 24 = .inl (g.2 0, 12, .inl f11_24) := (up_ne e15 (by decide) (up_ne e13 (by decide) v11_24))
  have c_26 : S15 25 = .inl (g.2 0, 8, .inl zf) := (up_ne e15 (by decide) (up_ne e13 (by decide) ((o11 25 (by decide)).trans (hX 25 (by decide)))))
  have c_27 : S15 26 = .inl (g.2 0, 8, .inl zf) := (up_ne e15 (by decide) (up_ne e13 (by decide) ((o11 26 (by decide)).trans (hX 26 (by decide)))))
  have c_28 : S15 27 = .inl (g.2 0, 8, .inl zf) := (up_ne e15 (by decide) (up_ne e13 (by decide) ((o11 27 (by decide)).trans (hX 27 (by decide)))))
  have c_29 : S15 33 = .inl (g.2 0, 3, .inl zf) := (up_ne e15 (by decide) (up_ne e13 (by decide) ((o11 33 (by decide)).trans (hX 33 (by decide)))))
  have c_30 : S15 11 = .inl (g.2 0, 6, .inl zf) := (up_ne e15 (by decide) (up_ne e13 (by decide) ((o11 11 (by decide)).trans (hX 11 (by decide)))))
  have c_31 : S15 12 = .inl (g.2 0, 6, .inl zf) := (up_ne e15 (by decide) (up_ne e13 (by decide) ((o11 12 (by decide)).trans (hX 12 (by decide)))))
  have c_32 : S15 13 = .inl (g.2 0, 6, .inl zf) := (up_ne e15 (by decide) (up_ne e13 (by decide) ((o11 13 (by decide)).trans (hX 13 (by decide)))))
  have c_33 : S15 14 = .inl (g.2 0, 6, .inl zf) := (up_ne e15 (by decide) (up_ne e13 (by decide) ((o11 14 (by decide)).trans (hX 14 (by decide)))))
  have c_34 : S15 29 = .inl (g.2 0, 6, .inl zf) := (up_ne e15 (by decide) (up_ne e13 (by decide) ((o11 29 (by decide)).trans (hX 29 (by decide)))))
  have c_35 : S15 30 = .inl (g.2 0, 6, .inl zf) := (up_ne e15 (by decide) (up_ne e13 (by decide) ((o11 30 (by decide)).trans (hX 30 (by decide)))))
  have c_36 : S15 31 = .inl (g.2 0, 6, .inl zf) := (up_ne e15 (by decide) (up_ne e13 (by decide) ((o11 31 (by decide)).trans (hX 31 (by decide)))))
  have c_37 : S15 32 = .inl (g.2 0, 6, .inl zf) := (up_ne e15 (by decide) (up_ne e13 (by decide) ((o11 32 (by decide)).trans (hX 32 (by decide)))))
  have c_38 : S15 17 = .inl (g.2 0, 40, .inl zf) := (up_ne e15 (by decide) (up_ne e13 (by decide) ((o11 17 (by decide)).trans (hX 17 (by decide)))))
  have c_39 : S15 18 = .inl (g.2 0, 40, .inl zf) := (up_ne e15 (by decide) (up_ne e13 (by decide) ((o11 18 (by decide)).trans (hX 18 (by decide)))))
  have c_40 : S15 19 = .inl (g.2 0, 40, .inl zf) := (up_ne e15 (by decide) (up_ne e13 (by decide) ((o11 19 (by decide)).trans (hX 19 (by decide)))))
  have c_41 : S15 35 = .inl (g.2 0, 40, .inl zf) := (up_ne e15 (by decide) (up_ne e13 (by decide) ((o11 35 (by decide)).trans (hX 35 (by decide)))))
  have c_42 : S15 36 = .inl (g.2 0, 40, .inl zf) := (up_ne e15 (by decide) (up_ne e13 (by decide) ((o11 36 (by decide)).trans (hX 36 (by decide)))))
  have c_43 : S15 37 = .inl (g.2 0, 40, .inl zf) := (up_ne e15 (by decide) (up_ne e13 (by decide) ((o11 37 (by decide)).trans (hX 37 (by decide)))))
  have c_44 : S15 2 = .inr (1, [.int 0, .int 0, .int 0, .ref (ad 3), .ref (ad 5), .ref (ad 6), .int 0, .int 0, .ref (ad 7), .ref (ad 8), .ref (ad 9), .ref (ad 10), .int 0, .ref (ad 15), .ref (ad 16)]) := (up_ne e15 (by decide) (up_ne e13 (by decide) ((o11 2 (by decide)).trans (hX 2 (by decide)))))
  have c_45 : S15 20 = .inr (1, [.int 0, .int 0, .int 0, .ref (ad 21), .ref (ad 23), .ref (ad 24), .int 0, .int 0, .ref (ad 25), .ref (ad 26), .ref (ad 27), .ref (ad 28), .int 0, .ref (ad 33), .ref (ad 34)]) := (up_ne e15 (by decide) (up_ne e13 (by decide) v11_20))
  have c_46 : S15 3 = .inr (10, [.int 0, .int 0, .int 0, .int 0, .ref (ad 4)]) := (up_ne e15 (by decide) (up_ne e13 (by decide) ((o11 3 (by decide)).trans (hX 3 (by decide)))))
  have c_47 : S15 21 = .inr (10, [.int 0, .int 0, .int 0, .int 0, .ref (ad 22)]) := (up_ne e15 (by decide) (up_ne e13 (by decide) v11_21))
  have c_48 : S15 10 = .inr (6, [.int 0, .ref (ad 11), .ref (ad 12), .ref (ad 13), .ref (ad 14)]) := (up_ne e15 (by decide) (up_ne e13 (by decide) ((o11 10 (by decide)).trans (hX 10 (by decide)))))
  have c_49 : S15 28 = .inr (6, [.int 0, .ref (ad 29), .ref (ad 30), .ref (ad 31), .ref (ad 32)]) := (up_ne e15 (by decide) (up_ne e13 (by decide) v11_28))
  have c_50 : S15 16 = .inr (0, [.int 0, .ref (ad 17), .ref (ad 18), .ref (ad 19)]) := (up_ne e15 (by decide) (up_ne e13 (by decide) ((o11 16 (by decide)).trans (hX 16 (by decide)))))
  have c_51 : S15 34 = .inr (0, [.int 0, .ref (ad 35), .ref (ad 36), .ref (ad 37)]) := (up_ne e15 (by decide) (up_ne e13 (by decide) v11_34))
  refine xcVv E hs hQ hml hl.1 2 (cCopy_2_20 l g ad hD S15 zf zf zf zf zf zf zf f11_23 f11_24 zf zf zf zf zf zf zf zf zf zf zf zf zf zf zf zf zf zf c_44 c_45 c_46 c_47 c_17 c_18 c_19 c_20 c_21 c_22 c_23 c_24 c_25 c_26 c_27 c_28 c_29 c_48 c_49 c_30 c_31 c_32 c_33 c_34 c_35 c_36 c_37 c_50 c_51 c_38 c_39 c_40 c_41 c_42 c_43) mX1_copyFrom q745 (by decide) c_44 rfl rfl ⟨by decide, by decide⟩ ⟨by decide, by decide⟩ (Nat.le_of_ble_eq_true rfl) rfl dX11_shore_51 (fun S52 H locs hp52 hQ _ => ?_)
  obtain ⟨o52, v52_2, v52_3, ⟨f52_4, v52_4⟩, ⟨f52_5, v52_5⟩, ⟨f52_6, v52_6⟩, ⟨f52_7, v52_7⟩, ⟨f52_8, v52_8⟩, ⟨f52_9, v52_9⟩, v52_10, ⟨f52_11, v52_11⟩, ⟨f52_12, v52_12⟩, ⟨f52_13, v52_13⟩, ⟨f52_14, v52_14⟩, ⟨f52_15, v52_15⟩, v52_16, ⟨f52_17, v52_17⟩, ⟨f52_18, v52_18⟩, ⟨f52_19, v52_19⟩⟩ := hp52
  refine lv_aload_n hx hb dX11_shore_54 rfl (lv_at hl 0 rfl) ?_
  refine lv_iconst (v := 0) hx hb dX11_shore_55 (by decide) ?_
  have c_53 : S52 0 = .inr (11, [.ref (ad 1), .int 0, .int 0, .int (-1), .ref (ad 2), .ref (ad 20), .ref (ad 38), .ref (ad 93), .ref (ad 94), .ref (ad 95), .ref (ad 102), .ref (ad 104), .ref (ad 107), .ref (ad 111), .ref (ad 119)]) := ((o52 0 (by decide)).trans u15)
  refine xputi E hs hQ 0 (by decide) c_53 rfl 1 (by decide) q517 rfl rfl (Nat.le_of_ble_eq_true rfl) dX11_shore_56 (fun H locs S54 e54 hQ => ?_)
  have u54 : S54 0 = .inr (11, [.ref (ad 1), .int 0, .int 0, .int (-1), .ref (ad 2), .ref (ad 20), .ref (ad 38), .ref (ad 93), .ref (ad 94), .ref (ad 95), .ref (ad 102), .ref (ad 104), .ref (ad 107), .ref (ad 111), .ref (ad 119)]) := up_at e54 rfl
  refine lv_aload_n hx hb dX11_shore_59 rfl (lv_at hl 0 rfl) ?_
  refine xget E hQ 0 (by decide) u54 rfl 9 (by decide) q525 rfl dX11_shore_60 ?_
  have c_55 : S54 95 = .inr (2, [.ref (ad 2), .ref (ad 96), .ref (ad 97), .ref (ad 98), .ref (ad 99), .ref (ad 100), .ref (ad 101), .int 0, .int 0]) := (up_ne e54 (by decide) ((o52 95 (by decide)).trans (up_ne e15 (by decide) (up_ne e13 (by decide) ((o11 95 (by decide)).trans (hX 95 (by decide)))))))
  have c_56 : S54 2 = .inr (1, [.int 0, .int 0, .int 0, .ref (ad 3), .ref (ad 5), .ref (ad 6), .int 0, .int 0, .ref (ad 7), .ref (ad 8), .ref (ad 9), .ref (ad 10), .int 0, .ref (ad 15), .ref (ad 16)]) := (up_ne e54 (by decide) v52_2)
  refine xcVv E hs hQ hml hl.1 95 (settleAll_0 l g ad hD S54 c_55 c_56) mX2_settleAll q762 (by decide) c_55 rfl rfl ⟨by decide, by decide⟩ ⟨by decide, by decide⟩ (Nat.le_of_ble_eq_true rfl) rfl dX11_shore_63 (fun S57 H locs hp57 hQ _ => ?_)
  have o57 := hp57
  refine lv_aload_n hx hb dX11_shore_66 rfl (lv_at hl 0 rfl) ?_
  have c_58 : S57 0 = .inr (11, [.ref (ad 1), .int 0, .int 0, .int (-1), .ref (ad 2), .ref (ad 20), .ref (ad 38), .ref (ad 93), .ref (ad 94), .ref (ad 95), .ref (ad 102), .ref (ad 104), .ref (ad 107), .ref (ad 111), .ref (ad 119)]) := ((o57 0 (by decide)).trans u54)
  refine xget E hQ 0 (by decide) c_58 rfl 4 (by decide) q520 rfl dX11_shore_67 ?_
  have c_59 : S57 2 = .inr (1, [.int 0, .int 0, .int 0, .ref (ad 3), .ref (ad 5), .ref (ad 6), .int 0, .int 0, .ref (ad 7), .ref (ad 8), .ref (ad 9), .ref (ad 10), .int 0, .ref (ad 15), .ref (ad 16)]) := ((o57 2 (by decide)).trans c_56)
  refine xget E hQ 2 (by decide) c_59 rfl 0 (by decide) q238 rfl dX11_shore_70 ?_
  have c_60 : S57 94 = .inr (5, [.ref (ad 1), .ref (ad 20), .int 0, .int 0, .int 0, .int 0, .int 0, .int 0, .int (-1)]) := ((o57 94 (by decide)).trans (up_ne e54 (by decide) ((o52 94 (by decide)).trans (up_ne e15 (by decide) c_14))))
  have c_61 : S57 20 = .inr (1, [.int 0, .int 0, .int 0, .ref (ad 21), .ref (ad 23), .ref (ad 24), .int 0, .int 0, .ref (ad 25), .ref (ad 26), .ref (ad 27), .ref (ad 28), .int 0, .ref (ad 33), .ref (ad 34)]) := ((o57 20 (by decide)).trans (up_ne e54 (by decide) ((o52 20 (by decide)).trans c_45)))
  have c_62 : S57 21 = .inr (10, [.int 0, .int 0, .int 0, .int 0, .ref (ad 22)]) := ((o57 21 (by decide)).trans (up_ne e54 (by decide) ((o52 21 (by decide)).trans c_47)))
  have c_63 : S57 22 = .inl (g.2 0, 36, .inl f11_22) := ((o57 22 (by decide)).trans (up_ne e54 (by decide) ((o52 22 (by decide)).trans (up_ne e15 (by decide) (up_ne e13 (by decide) v11_22)))))
  have c_64 : S57 23 = .inl (g.2 0, 12, .inl f11_23) := ((o57 23 (by decide)).trans (up_ne e54 (by decide) ((o52 23 (by decide)).trans c_24)))
  have c_65 : S57 24 = .inl (g.2 0, 12, .inl f11_24) := ((o57 24 (by decide)).trans (up_ne e54 (by decide) ((o52 24 (by decide)).trans c_25)))
  have c_66 : S57 28 = .inr (6, [.int 0, .ref (ad 29), .ref (ad 30), .ref (ad 31), .ref (ad 32)]) := ((o57 28 (by decide)).trans (up_ne e54 (by decide) ((o52 28 (by decide)).trans c_49)))
  have c_67 : S57 34 = .inr (0, [.int 0, .ref (ad 35), .ref (ad 36), .ref (ad 37)]) := ((o57 34 (by decide)).trans (up_ne e54 (by decide) ((o52 34 (by decide)).trans c_51)))
  have c_68 : S57 3 = .inr (10, [.int 0, .int 0, .int 0, .int 0, .ref (ad 4)]) := ((o57 3 (by decide)).trans (up_ne e54 (by decide) v52_3))
  have c_69 : S57 4 = .inl (g.2 0, 36, .inl f52_4) := ((o57 4 (by decide)).trans (up_ne e54 (by decide) v52_4))
  have c_70 : S57 5 = .inl (g.2 0, 12, .inl f52_5) := ((o57 5 (by decide)).trans (up_ne e54 (by decide) v52_5))
  have c_71 : S57 6 = .inl (g.2 0, 12, .inl f52_6) := ((o57 6 (by decide)).trans (up_ne e54 (by decide) v52_6))
  have c_72 : S57 7 = .inl (g.2 0, 8, .inl f52_7) := ((o57 7 (by decide)).trans (up_ne e54 (by decide) v52_7))
  have c_73 : S57 8 = .inl (g.2 0, 8, .inl f52_8) := ((o57 8 (by decide)).trans (up_ne e54 (by decide) v52_8))
  have c_74 : S57 9 = .inl (g.2 0, 8, .inl f52_9) := ((o57 9 (by decide)).trans (up_ne e54 (by decide) v52_9))
  have c_75 : S57 10 = .inr (6, [.int 0, .ref (ad 11), .ref (ad 12), .ref (ad 13), .ref (ad 14)]) := ((o57 10 (by decide)).trans (up_ne e54 (by decide) v52_10))
  have c_76 : S57 11 = .inl (g.2 0, 6, .inl f52_11) := ((o57 11 (by decide)).trans (up_ne e54 (by decide) v52_11))
  have c_77 : S57 12 = .inl (g.2 0, 6, .inl f52_12) := ((o57 12 (by decide)).trans (up_ne e54 (by decide) v52_12))
  have c_78 : S57 13 = .inl (g.2 0, 6, .inl f52_13) := ((o57 13 (by decide)).trans (up_ne e54 (by decide) v52_13))
  have c_79 : S57 14 = .inl (g.2 0, 6, .inl f52_14) := ((o57 14 (by decide)).trans (up_ne e54 (by decide) v52_14))
  have c_80 : S57 15 = .inl (g.2 0, 3, .inl f52_15) := ((o57 15 (by decide)).trans (up_ne e54 (by decide) v52_15))
  have c_81 : S57 16 = .inr (0, [.int 0, .ref (ad 17), .ref (ad 18), .ref (ad 19)]) := ((o57 16 (by decide)).trans (up_ne e54 (by decide) v52_16))
  have c_82 : S57 17 = .inl (g.2 0, 40, .inl f52_17) := ((o57 17 (by decide)).trans (up_ne e54 (by decide) v52_17))
  have c_83 : S57 18 = .inl (g.2 0, 40, .inl f52_18) := ((o57 18 (by decide)).trans (up_ne e54 (by decide) v52_18))
  have c_84 : S57 19 = .inl (g.2 0, 40, .inl f52_19) := ((o57 19 (by decide)).trans (up_ne e54 (by decide) v52_19))
  exact xri E hr hlk hQ (rfl) dX11_shore_73
