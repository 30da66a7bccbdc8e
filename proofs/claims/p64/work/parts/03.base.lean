/-! the world: a pool of cells by number; ad i: the address of cell i; S i: what it holds -/
abbrev GG : Type := va_G × (Nat → ClassId)
abbrev tysG (g : GG) : List (ClassId × FieldType) := [(g.2 0, .int), (g.2 1, .byte), (g.2 2, .long), (g.2 3, .boolean), (g.2 4, .object "EbbWreck$Coast"), (g.2 5, .array .long)]
abbrev KK (g : GG) (U : State) : Prop := va_K g.1 vwCl (tysG g) U
abbrev SS : Type := Nat → va_E
def PW (g : GG) (ad : Nat → Nat) (N : Nat) (S : SS) (H : Heap) : Prop := ∀ i, i < N → va_at g.1 vwCl (ad i, S i) H
def Dj (ad : Nat → Nat) (N : Nat) : Prop := ∀ i j, i < N → j < N → ad i = ad j → i = j
def FA (ad : Nat → Nat) (N : Nat) : Nat → Prop := fun q => ∃ i, i < N ∧ ad i = q
def wl (ad : Nat → Nat) (N : Nat) (S : SS) : va_W := (List.range N).map (fun i => (ad i, S i))
theorem wl_get {ad : Nat → Nat} {N : Nat} {S : SS} {k : Nat} (h : k < N) : (wl ad N S)[k]? = some (ad k, S k) := by
  simp [wl, h]
theorem wl_of {ad : Nat → Nat} {N : Nat} {S : SS} {k : Nat} {q : Nat × va_E} (h : (wl ad N S)[k]? = some q) : k < N ∧ q = (ad k, S k) := by
  have hk : k < N := by
    have h1 := (List.getElem?_eq_some_iff.mp h).1
    simpa [wl] using h1
  rw [wl_get hk] at h
  exact ⟨hk, (Option.some.inj h).symm⟩
theorem wl_set {ad : Nat → Nat} {N : Nat} {S : SS} {k : Nat} {e : va_E} (hk : k < N) : (wl ad N S).set k (ad k, e) = wl ad N (va_up S k e) := by
  apply List.ext_getElem?
  intro i
  by_cases hi : i < N
  · rw [wl_get hi, List.getElem?_set]
    by_cases hik : k = i
    · subst hik
      simp [wl, hi, va_up]
    · rw [if_neg hik, wl_get hi, va_up_ne _ _ (fun q => hik q.symm)]
  · rw [List.getElem?_eq_none (by simp [wl]; omega), List.getElem?_eq_none (by simp [wl]; omega)]
theorem PW.toP {g : GG} {ad : Nat → Nat} {N : Nat} {S : SS} {H : Heap} (h : PW g ad N S H) : va_P g.1 vwCl (wl ad N S) H := fun k q hq => by
  obtain ⟨h1, rfl⟩ := wl_of hq
  exact h k h1
theorem PW.ofP {g : GG} {ad : Nat → Nat} {N : Nat} {S : SS} {H : Heap} (h : va_P g.1 vwCl (wl ad N S) H) : PW g ad N S H := fun i hi => h i _ (wl_get hi)
def Sp (ad : Nat → Nat) (N : Nat) (A : Nat → Prop) : Prop := Dj ad N ∧ ∀ i, i < N → A (ad i)
theorem Sp.fa {ad : Nat → Nat} {N : Nat} (h : Dj ad N) : Sp ad N (FA ad N) := ⟨h, fun i hi => ⟨i, hi, rfl⟩⟩
theorem Sp.toD {ad : Nat → Nat} {N : Nat} {A : Nat → Prop} {S : SS} (h : Sp ad N A) : va_D A (wl ad N S) := by
  refine ⟨fun i j p q hp hq e => ?_, fun k q hq => ?_⟩
  · obtain ⟨h1, rfl⟩ := wl_of hp
    obtain ⟨h2, rfl⟩ := wl_of hq
    exact h.1 i j h1 h2 e
  · obtain ⟨h1, rfl⟩ := wl_of hq
    exact h.2 k h1
def Hp (g : GG) (ad : Nat → Nat) (N : Nat) (S : SS) (A : Nat → Prop) (H0 H : Heap) (locs : List Loc) : Prop := PW g ad N S H ∧ va_S A H0 H locs
theorem up_at {S S1 : SS} {k : Nat} {v w : va_E} (e : S1 = va_up S k v) (h : v = w) : S1 k = w := by rw [e, va_up_self, h]
theorem up_ne {S S1 : SS} {k j : Nat} {v w : va_E} (e : S1 = va_up S k v) (h : j ≠ k) (c : S j = w) : S1 j = w := by rw [e, va_up_ne _ _ h, c]
/-- the words: every method's own code, then all the tables' words -/
def lw_g : List Cond := lw_tbl.filter goodWord
theorem mg {w : Cond} (h : w ∈ lw_tbl) (hg : goodWord w = true) : w ∈ lw_g := List.mem_filter.mpr ⟨h, hg⟩
theorem mgs {ws : List Cond} (h : ∀ w ∈ ws, w ∈ lw_tbl) (hg : ws.all goodWord = true) : ∀ w ∈ ws, w ∈ lw_g := fun w hw => mg (h w hw) (List.all_eq_true.mp hg w hw)
def wG (w : Cond) : List Cond := w :: lw_g
theorem good_in {w : Cond} (h : w ∈ lw_g) : (w.onTables && w.keeps) = true ∨ ∃ ty, w = .arrayClass ty := good_of_word (List.mem_filter.mp h).2
theorem gG {w1 w2 : Cond} (h : w2 ∈ lw_g) : GoodIn (wG w1) (wG w2) := fun w hw => by
  rcases List.mem_cons.mp hw with rfl | hw
  · exact ⟨List.mem_cons_of_mem _ h, good_in h⟩
  · exact ⟨List.mem_cons_of_mem _ hw, good_in hw⟩
theorem gT {w2 : Cond} (h : w2 ∈ lw_g) : GoodIn lw_g (wG w2) := fun w hw => by
  rcases List.mem_cons.mp hw with rfl | hw
  · exact ⟨h, good_in h⟩
  · exact ⟨hw, good_in hw⟩
/-- what holds in a method's body throughout -/
def Ev (p : Program) (s : State) (m : MethodId) (args : Array Value) (c : Code) (cc : ByteArray) (own : String) (g : GG) : Prop :=
  p.tables.exec = Jvm.exec ∧ c.code = cc ∧ s.vm.findClass own = some m.cls ∧ (∀ w ∈ lw_g, w.before args s = true) ∧ KK g s
def XPre (g : GG) (ad : Nat → Nat) (N : Nat) (S : SS) (av : List Value) : Array Value → State → Prop := fun v U => v = av.toArray ∧ PW g ad N S U.heap ∧ KK g U
theorem XPre.blind {g : GG} {ad : Nat → Nat} {N : Nat} {S : SS} {av : List Value} : FrameBlind (XPre g ad N S av) := fun a U gf mk q => by
  obtain ⟨q0, q1, q2⟩ := q
  exact ⟨q0, q1, va_K.moved (u := U) (U := U.calling gf mk a) (Vm.Alike.refl U.vm) q2⟩
abbrev QB (g : GG) (ad : Nat → Nat) (N : Nat) : SS → State → Prop := fun S' t => PW g ad N S' t.heap
abbrev Rm (d : Nat) : Room := { frames := d, cells := 0, slots := 0, locals := 64 * d }
def CmV (C : String) (y : MethodName) (bytes : ByteArray) (maxL : Nat) (ret : Option FieldType) (n : Nat) : Prop :=
  Cond.instanceMethod y ∈ lw_g ∧ Cond.selects C y y ∈ lw_g ∧ Cond.initialized C ∈ lw_g ∧ Cond.code y bytes maxL ret ∈ lw_g ∧ (y.cls = C ∧ y.cls ≠ "java/lang/invoke/MethodHandle" ∧ y.cls ≠ "java/lang/invoke/VarHandle" ∧ (parseMethodDescriptor y.desc).map (fun d => d.parameters.length) = some n)
def CmS (y : MethodName) (bytes : ByteArray) (maxL : Nat) (ret : Option FieldType) (n : Nat) : Prop :=
  Cond.static y ∈ lw_g ∧ Cond.initialized y.cls ∈ lw_g ∧ Cond.code y bytes maxL ret ∈ lw_g ∧ (y.cls ≠ "java/lang/invoke/MethodHandle" ∧ y.cls ≠ "java/lang/invoke/VarHandle" ∧ (parseMethodDescriptor y.desc).map (fun d => d.parameters.length) = some n)
def clOf : Nat → String × u_T × Nat × (Nat → FieldType) := fun ci => match ci with
  | 0 => (RX0, TX0, 4, tyX0) | 1 => (RX1, TX1, 15, tyX1) | 2 => (RX2, TX2, 9, tyX2) | 3 => (RX3, TX3, 5, tyX3) | 4 => (RX4, TX4, 4, tyX4) | 5 => (RX5, TX5, 9, tyX5)
  | 6 => (RX6, TX6, 5, tyX6) | 7 => (RX7, TX7, 5, tyX7) | 8 => (RX8, TX8, 3, tyX8) | 9 => (RX9, TX9, 3, tyX9) | 10 => (RX10, TX10, 5, tyX10) | 11 => (RX11, TX11, 15, tyX11) | _ => (RX12, TX12, 38, tyX12)
theorem iX0 : ∀ w ∈ u_ws RX0 TX0 4, w ∈ lw_g := mgs (by decide +kernel) (by decide +kernel)
theorem iX1 : ∀ w ∈ u_ws RX1 TX1 15, w ∈ lw_g := mgs (by decide +kernel) (by decide +kernel)
theorem iX2 : ∀ w ∈ u_ws RX2 TX2 9, w ∈ lw_g := mgs (by decide +kernel) (by decide +kernel)
theorem iX3 : ∀ w ∈ u_ws RX3 TX3 5, w ∈ lw_g := mgs (by decide +kernel) (by decide +kernel)
theorem iX4 : ∀ w ∈ u_ws RX4 TX4 4, w ∈ lw_g := mgs (by decide +kernel) (by decide +kernel)
theorem iX5 : ∀ w ∈ u_ws RX5 TX5 9, w ∈ lw_g := mgs (by decide +kernel) (by decide +kernel)
theorem iX6 : ∀ w ∈ u_ws RX6 TX6 5, w ∈ lw_g := mgs (by decide +kernel) (by decide +kernel)
theorem iX7 : ∀ w ∈ u_ws RX7 TX7 5, w ∈ lw_g := mgs (by decide +kernel) (by decide +kernel)
theorem iX8 : ∀ w ∈ u_ws RX8 TX8 3, w ∈ lw_g := mgs (by decide +kernel) (by decide +kernel)
theorem iX9 : ∀ w ∈ u_ws RX9 TX9 3, w ∈ lw_g := mgs (by decide +kernel) (by decide +kernel)
theorem iX10 : ∀ w ∈ u_ws RX10 TX10 5, w ∈ lw_g := mgs (by decide +kernel) (by decide +kernel)
theorem iX11 : ∀ w ∈ u_ws RX11 TX11 15, w ∈ lw_g := mgs (by decide +kernel) (by decide +kernel)
theorem iX12 : ∀ w ∈ u_ws RX12 TX12 38, w ∈ lw_g := mgs (by decide +kernel) (by decide +kernel)
theorem clAll {ci : Nat} {C : String} {T : u_T} {n : Nat} (h : vwCl[ci]? = some (C, T, n)) :
    (∀ w ∈ u_ws C T n, w ∈ lw_g) ∧ (∃ ty : Nat → FieldType, (∀ k, k < n → parseFieldDescriptor (T k).2.2.1 = some (ty k))) ∧ (∀ a, a < n → ∀ b, b < n → a ≠ b → (T a).2.1 ≠ (T b).2.1) := by
  match ci, h with
  | 0, h => cases h; exact ⟨iX0, ⟨_, tyX0_ok⟩, nmX0⟩
  | 1, h => cases h; exact ⟨iX1, ⟨_, tyX1_ok⟩, nmX1⟩
  | 2, h => cases h; exact ⟨iX2, ⟨_, tyX2_ok⟩, nmX2⟩
  | 3, h => cases h; exact ⟨iX3, ⟨_, tyX3_ok⟩, nmX3⟩
  | 4, h => cases h; exact ⟨iX4, ⟨_, tyX4_ok⟩, nmX4⟩
  | 5, h => cases h; exact ⟨iX5, ⟨_, tyX5_ok⟩, nmX5⟩
  | 6, h => cases h; exact ⟨iX6, ⟨_, tyX6_ok⟩, nmX6⟩
  | 7, h => cases h; exact ⟨iX7, ⟨_, tyX7_ok⟩, nmX7⟩
  | 8, h => cases h; exact ⟨iX8, ⟨_, tyX8_ok⟩, nmX8⟩
  | 9, h => cases h; exact ⟨iX9, ⟨_, tyX9_ok⟩, nmX9⟩
  | 10, h => cases h; exact ⟨iX10, ⟨_, tyX10_ok⟩, nmX10⟩
  | 11, h => cases h; exact ⟨iX11, ⟨_, tyX11_ok⟩, nmX11⟩
  | 12, h => cases h; exact ⟨iX12, ⟨_, tyX12_ok⟩, nmX12⟩
  | k + 13, h => simp [vwCl] at h
section XR
variable {p : Program} {l : Launch} {e : Env} {R : Room} {s : State} {m : MethodId} {args : Array Value} {below : List Frame} {meth : Method} {c : Code} {H : Heap} {locs : List Loc} {cells slots : Nat} {Q : State → Prop}
variable {cc : ByteArray} {pc : Nat} {ls : Array Slot} {rest : List Value} {own : String} {g : GG} {ad : Nat → Nat} {N : Nat} {S : SS} {A : Nat → Prop} {H0 : Heap}
theorem xget (E : Ev p s m args c cc own g) (hQ : Hp g ad N S A H0 H locs) (k : Nat) (hk : k < N) {ci : Nat} {fs : List Value} (hS : S k = .inr (ci, fs)) {C : String} {T : u_T} {Nf : Nat} (hc : vwCl[ci]? = some (C, T, Nf)) (j : Nat) (hj : j < Nf) {index : Nat} (hq : Cond.fieldLink own index (T j).1 (T j).2.1 (T j).2.2.1 ∈ lw_g) {v : Value} (hv : fs[j]? = some v) (hdg : decode cc pc = .ok (.getfield index, 3))
    (kk : W p l e R s m args below meth c H locs cells slots Q (F0 m (pc + 3) ls (v :: rest))) : W p l e R s m args below meth c H locs cells slots Q (F0 m pc ls (.ref (ad k) :: rest)) :=
  va_get (ws := wl ad N S) E.1 E.2.1 E.2.2.2.1 (clAll hc).1 E.2.2.1 E.2.2.2.2 hQ.1.toP k (by rw [wl_get hk, hS]) hc j hj (E.2.2.2.1 _ hq) (fun _ h => h) hv hdg kk
theorem xput (E : Ev p s m args c cc own g) (hs : Sp ad N A) (hQ : Hp g ad N S A H0 H locs) (k : Nat) (hk : k < N) {ci : Nat} {fs : List Value} (hS : S k = .inr (ci, fs)) {C : String} {T : u_T} {Nf : Nat} (hc : vwCl[ci]? = some (C, T, Nf)) (j : Nat) (hj : j < Nf) {index : Nat} (hq : Cond.fieldLink own index (T j).1 (T j).2.1 (T j).2.2.1 ∈ lw_g) (hfin : (T j).2.2.2 = false) {ty : FieldType} {v : Value} (hd : parseFieldDescriptor (T j).2.2.1 = some ty) (hn : narrow ty v = v) (hfit : fits ty v = true) (hl : j < fs.length) (hdg : decode cc pc = .ok (.putfield index, 3))
    (kk : ∀ (H1 : Heap) (locs1 : List Loc) (S1 : SS), S1 = va_up S k (.inr (ci, fs.set j v)) → Hp g ad N S1 A H0 H1 locs1 → W p l e R s m args below meth c H1 locs1 cells slots Q (F0 m (pc + 3) ls rest)) : W p l e R s m args below meth c H locs cells slots Q (F0 m pc ls (v :: .ref (ad k) :: rest)) := by
  obtain ⟨ty0, hty⟩ := (clAll hc).2.1
  refine va_put (ws := wl ad N S) E.1 E.2.1 E.2.2.2.1 (clAll hc).1 ty0 hty (clAll hc).2.2 E.2.2.1 E.2.2.2.2 hQ.1.toP hs.toD hQ.2 k (by rw [wl_get hk, hS]) hc j hj (E.2.2.2.1 _ hq) (fun _ h => h) hfin hd hn hfit hl hdg (fun H1 locs1 hP hD hS1 => ?_)
  rw [wl_set hk] at hP
  exact kk H1 locs1 _ rfl ⟨PW.ofP hP, hS1⟩
theorem xputi (E : Ev p s m args c cc own g) (hs : Sp ad N A) (hQ : Hp g ad N S A H0 H locs) (k : Nat) (hk : k < N) {ci : Nat} {fs : List Value} (hS : S k = .inr (ci, fs)) {C : String} {T : u_T} {Nf : Nat} (hc : vwCl[ci]? = some (C, T, Nf)) (j : Nat) (hj : j < Nf) {index : Nat} (hq : Cond.fieldLink own index (T j).1 (T j).2.1 (T j).2.2.1 ∈ lw_g) (hfin : (T j).2.2.2 = false) {x : Int32} (hd : (T j).2.2.1 = "I") (hl : j < fs.length) (hdg : decode cc pc = .ok (.putfield index, 3))
    (kk : ∀ (H1 : Heap) (locs1 : List Loc) (S1 : SS), S1 = va_up S k (.inr (ci, fs.set j (.int x))) → Hp g ad N S1 A H0 H1 locs1 → W p l e R s m args below meth c H1 locs1 cells slots Q (F0 m (pc + 3) ls rest)) : W p l e R s m args below meth c H locs cells slots Q (F0 m pc ls (.int x :: .ref (ad k) :: rest)) :=
  xput (ty := .int) E hs hQ k hk hS hc j hj hq hfin (by rw [hd]; decide +kernel) rfl rfl hl hdg kk
theorem xiald (E : Ev p s m args c cc own g) (hQ : Hp g ad N S A H0 H locs) (k : Nat) (hk : k < N) {n : Nat} {f : Nat → Int32} (hS : S k = .inl (g.2 0, n, .inl f)) {i : Int32} (hin : vp_in i n) (hdg : decode cc pc = .ok (.iaload, 1))
    (kk : W p l e R s m args below meth c H locs cells slots Q (F0 m (pc + 1) ls (.int (f i.toNatClampNeg) :: rest))) : W p l e R s m args below meth c H locs cells slots Q (F0 m pc ls (.int i :: .ref (ad k) :: rest)) :=
  va_iald (ws := wl ad N S) E.1 E.2.1 E.2.2.2.2 hQ.1.toP k 0 (by rw [wl_get hk, hS]) rfl hin hdg kk
theorem xbald (E : Ev p s m args c cc own g) (hQ : Hp g ad N S A H0 H locs) (k : Nat) (hk : k < N) {n : Nat} {f : Nat → Int32} (hS : S k = .inl (g.2 1, n, .inl f)) {i : Int32} (hin : vp_in i n) (hdg : decode cc pc = .ok (.baload, 1))
    (kk : W p l e R s m args below meth c H locs cells slots Q (F0 m (pc + 1) ls (.int (f i.toNatClampNeg) :: rest))) : W p l e R s m args below meth c H locs cells slots Q (F0 m pc ls (.int i :: .ref (ad k) :: rest)) :=
  va_bald (ws := wl ad N S) E.1 E.2.1 E.2.2.2.2 hQ.1.toP k 1 (by rw [wl_get hk, hS]) rfl hin hdg kk
theorem xzald (E : Ev p s m args c cc own g) (hQ : Hp g ad N S A H0 H locs) (k : Nat) (hk : k < N) {n : Nat} {f : Nat → Int32} (hS : S k = .inl (g.2 3, n, .inl f)) {i : Int32} (hin : vp_in i n) (hdg : decode cc pc = .ok (.baload, 1))
    (kk : W p l e R s m args below meth c H locs cells slots Q (F0 m (pc + 1) ls (.int (f i.toNatClampNeg) :: rest))) : W p l e R s m args below meth c H locs cells slots Q (F0 m pc ls (.int i :: .ref (ad k) :: rest)) :=
  va_zald (ws := wl ad N S) E.1 E.2.1 E.2.2.2.2 hQ.1.toP k 3 (by rw [wl_get hk, hS]) rfl hin hdg kk
theorem xlald (E : Ev p s m args c cc own g) (hQ : Hp g ad N S A H0 H locs) (k : Nat) (hk : k < N) {n : Nat} {f : Nat → Int64} (hS : S k = .inl (g.2 2, n, .inr (.inl f))) {i : Int32} (hin : vp_in i n) (hdg : decode cc pc = .ok (.laload, 1))
    (kk : W p l e R s m args below meth c H locs cells slots Q (F0 m (pc + 1) ls (.long (f i.toNatClampNeg) :: rest))) : W p l e R s m args below meth c H locs cells slots Q (F0 m pc ls (.int i :: .ref (ad k) :: rest)) :=
  va_lald (ws := wl ad N S) E.1 E.2.1 E.2.2.2.2 hQ.1.toP k 2 (by rw [wl_get hk, hS]) rfl hin hdg kk
theorem xqald (E : Ev p s m args c cc own g) (hQ : Hp g ad N S A H0 H locs) (k : Nat) (hk : k < N) {n : Nat} {f : Nat → Option Nat} (hS : S k = .inl (g.2 4, n, .inr (.inr (.inr (.inr f))))) {i : Int32} (hin : vp_in i n) {q : Nat} (hf : f i.toNatClampNeg = some q) (hdg : decode cc pc = .ok (.aaload, 1))
    (kk : W p l e R s m args below meth c H locs cells slots Q (F0 m (pc + 1) ls (.ref q :: rest))) : W p l e R s m args below meth c H locs cells slots Q (F0 m pc ls (.int i :: .ref (ad k) :: rest)) :=
  va_aldq (ws := wl ad N S) E.1 E.2.1 E.2.2.2.2 hQ.1.toP k 4 (by rw [wl_get hk, hS]) rfl hin hdg (by rw [hf]; exact kk)
theorem xaald (E : Ev p s m args c cc own g) (hQ : Hp g ad N S A H0 H locs) (k : Nat) (hk : k < N) {n : Nat} {f : Nat → Option Nat} (hS : S k = .inl (g.2 5, n, .inr (.inr (.inr (.inr f))))) {i : Int32} (hin : vp_in i n) {q : Nat} (hf : f i.toNatClampNeg = some q) (hdg : decode cc pc = .ok (.aaload, 1))
    (kk : W p l e R s m args below meth c H locs cells slots Q (F0 m (pc + 1) ls (.ref q :: rest))) : W p l e R s m args below meth c H locs cells slots Q (F0 m pc ls (.int i :: .ref (ad k) :: rest)) := by
  have hlt : i.toNatClampNeg < n := Nat.not_le.mp fun q => hin (Or.inr q)
  have hP := hQ.1 k hk
  rw [hS] at hP
  exact W.aald (v := .ref q) (ty := .array .long) E.1 E.2.1 hP ((E.2.2.2.2.2 5 _ rfl).1 n (fun j => va_rf (f j))) rfl (fun q => by cases q) (by show ¬ (i < 0 ∨ (arrV _ _ _).slots.size ≤ _); rw [arrV_size]; exact hin) (by show (arrV _ _ _).slots[_]? = _; rw [arrV_read _ _ hlt, hf]; rfl) rfl rfl hdg kk
theorem xiast (E : Ev p s m args c cc own g) (hs : Sp ad N A) (hQ : Hp g ad N S A H0 H locs) (k : Nat) (hk : k < N) {n : Nat} {f : Nat → Int32} (hS : S k = .inl (g.2 0, n, .inl f)) {i x : Int32} (hin : vp_in i n) (hdg : decode cc pc = .ok (.iastore, 1))
    (kk : ∀ (H1 : Heap) (locs1 : List Loc) (S1 : SS), S1 = va_up S k (.inl (g.2 0, n, .inl (upd f i.toNatClampNeg x))) → Hp g ad N S1 A H0 H1 locs1 → W p l e R s m args below meth c H1 locs1 cells slots Q (F0 m (pc + 1) ls rest)) : W p l e R s m args below meth c H locs cells slots Q (F0 m pc ls (.int x :: .int i :: .ref (ad k) :: rest)) := by
  refine va_iast (ws := wl ad N S) E.1 E.2.1 E.2.2.2.2 hQ.1.toP hs.toD hQ.2 k 0 (by rw [wl_get hk, hS]) rfl hin hdg (fun H1 locs1 hP hD hS1 => ?_)
  rw [wl_set hk] at hP
  exact kk H1 locs1 _ rfl ⟨PW.ofP hP, hS1⟩
theorem xbast (E : Ev p s m args c cc own g) (hs : Sp ad N A) (hQ : Hp g ad N S A H0 H locs) (k : Nat) (hk : k < N) {n : Nat} {f : Nat → Int32} (hS : S k = .inl (g.2 1, n, .inl f)) {i x : Int32} (hin : vp_in i n) (hdg : decode cc pc = .ok (.bastore, 1))
    (kk : ∀ (H1 : Heap) (locs1 : List Loc) (S1 : SS), S1 = va_up S k (.inl (g.2 1, n, .inl (upd f i.toNatClampNeg (vp_nar .byte x)))) → Hp g ad N S1 A H0 H1 locs1 → W p l e R s m args below meth c H1 locs1 cells slots Q (F0 m (pc + 1) ls rest)) : W p l e R s m args below meth c H locs cells slots Q (F0 m pc ls (.int x :: .int i :: .ref (ad k) :: rest)) := by
  refine va_bast (ws := wl ad N S) E.1 E.2.1 E.2.2.2.2 hQ.1.toP hs.toD hQ.2 k 1 (by rw [wl_get hk, hS]) rfl hin hdg (fun H1 locs1 hP hD hS1 => ?_)
  rw [wl_set hk] at hP
  exact kk H1 locs1 _ rfl ⟨PW.ofP hP, hS1⟩
theorem xzast (E : Ev p s m args c cc own g) (hs : Sp ad N A) (hQ : Hp g ad N S A H0 H locs) (k : Nat) (hk : k < N) {n : Nat} {f : Nat → Int32} (hS : S k = .inl (g.2 3, n, .inl f)) {i x : Int32} (hin : vp_in i n) (hdg : decode cc pc = .ok (.bastore, 1))
    (kk : ∀ (H1 : Heap) (locs1 : List Loc) (S1 : SS), S1 = va_up S k (.inl (g.2 3, n, .inl (upd f i.toNatClampNeg (vp_nar .boolean x)))) → Hp g ad N S1 A H0 H1 locs1 → W p l e R s m args below meth c H1 locs1 cells slots Q (F0 m (pc + 1) ls rest)) : W p l e R s m args below meth c H locs cells slots Q (F0 m pc ls (.int x :: .int i :: .ref (ad k) :: rest)) := by
  refine va_zast (ws := wl ad N S) E.1 E.2.1 E.2.2.2.2 hQ.1.toP hs.toD hQ.2 k 3 (by rw [wl_get hk, hS]) rfl hin hdg (fun H1 locs1 hP hD hS1 => ?_)
  rw [wl_set hk] at hP
  exact kk H1 locs1 _ rfl ⟨PW.ofP hP, hS1⟩
theorem xlast (E : Ev p s m args c cc own g) (hs : Sp ad N A) (hQ : Hp g ad N S A H0 H locs) (k : Nat) (hk : k < N) {n : Nat} {f : Nat → Int64} (hS : S k = .inl (g.2 2, n, .inr (.inl f))) {i : Int32} {x : Int64} (hin : vp_in i n) (hdg : decode cc pc = .ok (.lastore, 1))
    (kk : ∀ (H1 : Heap) (locs1 : List Loc) (S1 : SS), S1 = va_up S k (.inl (g.2 2, n, .inr (.inl (vp_updL f i.toNatClampNeg x)))) → Hp g ad N S1 A H0 H1 locs1 → W p l e R s m args below meth c H1 locs1 cells slots Q (F0 m (pc + 1) ls rest)) : W p l e R s m args below meth c H locs cells slots Q (F0 m pc ls (.long x :: .int i :: .ref (ad k) :: rest)) := by
  refine va_last (ws := wl ad N S) E.1 E.2.1 E.2.2.2.2 hQ.1.toP hs.toD hQ.2 k 2 (by rw [wl_get hk, hS]) rfl hin hdg (fun H1 locs1 hP hD hS1 => ?_)
  rw [wl_set hk] at hP
  exact kk H1 locs1 _ rfl ⟨PW.ofP hP, hS1⟩
/-- any array's length -/
theorem xalen (E : Ev p s m args c cc own g) (hQ : Hp g ad N S A H0 H locs) (k : Nat) (hk : k < N) (t0 : Nat) {cA : ClassId} {x : vp_A} (hS : S k = .inl (cA, x)) {ty : FieldType} (ht : (tysG g)[t0]? = some (cA, ty)) {v : Int32} (hv : Int32.ofNat x.1 = v) (hdg : decode cc pc = .ok (.arraylength, 1))
    (kk : W p l e R s m args below meth c H locs cells slots Q (F0 m (pc + 1) ls (.int v :: rest))) : W p l e R s m args below meth c H locs cells slots Q (F0 m pc ls (.ref (ad k) :: rest)) :=
  va_alen (ws := wl ad N S) E.1 E.2.1 E.2.2.2.2 hQ.1.toP k t0 (by rw [wl_get hk, hS]) ht hv hdg kk
/-- int and byte arrays copied, System.arraycopy -/
theorem xcopyi (E : Ev p s m args c cc own g) (hs : Sp ad N A) (hQ : Hp g ad N S A H0 H locs) {nL : Nat} (hml : c.maxLocals = nL) (hls : ls.size = nL) (k0 : Nat) (hk0 : k0 < N) (k : Nat) (hk : k < N) {n0 n1 : Nat} {f f1 : Nat → Int32} (hS0 : S k0 = .inl (g.2 0, n0, .inl f)) (hS : S k = .inl (g.2 0, n1, .inl f1)) {index : Nat} (hq : Cond.methodLink own index arraycopyName ∈ lw_g)
    {sp dp n : Int32} (h1 : ¬ sp < 0) (h2 : ¬ dp < 0) (h3 : ¬ n < 0) (h4 : sp.toNatClampNeg + n.toNatClampNeg ≤ n0) (h5 : dp.toNatClampNeg + n.toNatClampNeg ≤ n1) (hframes : 1 ≤ R.frames) (hlocals : (rest.map fun v => v.category).sum + (nativeFrameWords "java/lang/System" "arraycopy" 5 + 11) ≤ R.locals) (hdg : decode cc pc = .ok (.invokestatic index, 3))
    (kk : ∀ (H1 : Heap) (locs1 : List Loc) (S1 : SS), S1 = va_up S k (.inl (g.2 0, n1, .inl (va_cpy f f1 sp.toNatClampNeg dp.toNatClampNeg n.toNatClampNeg))) → Hp g ad N S1 A H0 H1 locs1 → W p l e R s m args below meth c H1 locs1 cells slots Q (F0 m (pc + 3) ls rest)) : W p l e R s m args below meth c H locs cells slots Q (F0 m pc ls (.int n :: .int dp :: .ref (ad k) :: .int sp :: .ref (ad k0) :: rest)) := by
  refine va_copyi (ws := wl ad N S) (ty := .int) E.1 E.2.1 (hml.trans hls.symm) E.2.2.1 (E.2.2.2.1 _ hq) (E.2.2.2.1 _ (mg (by decide +kernel) rfl)) (E.2.2.2.1 _ (mg (by decide +kernel) rfl)) (E.2.2.2.1 _ (mg (by decide +kernel) rfl)) E.2.2.2.2 hQ.1.toP hs.toD hQ.2 k0 k 0 0 (by rw [wl_get hk0, hS0]) (by rw [wl_get hk, hS]) rfl rfl rfl h1 h2 h3 h4 h5 (fun i hi => rfl) hframes hlocals hdg (fun H1 locs1 hP hD hS1 => ?_)
  rw [wl_set hk] at hP
  exact kk H1 locs1 _ rfl ⟨PW.ofP hP, hS1⟩
/-- calls: the callee's world is the same pool -/
theorem xpreS {av : List Value} (hP : PW g ad N S H) (hK : KK g s) : PreS s H (XPre g ad N S av) av :=
  ⟨XPre.blind, fun U hU hW => ⟨rfl, by rw [hU]; exact hP, va_K.moved hW.alike hK⟩⟩
theorem xpreV {As : List Value} (hP : PW g ad N S H) (hK : KK g s) (k : Nat) (hk : k < N) {ci : Nat} {fs : List Value} (hS : S k = .inr (ci, fs)) {q : vw_C} (hc : vwCl[ci]? = some q) : PreV s H q.1 (ad k) (XPre g ad N S (.ref (ad k) :: As)) As :=
  ⟨XPre.blind, va_recv (ws := wl ad N S) (q0 := k) hK hP.toP hc (by rw [wl_get hk, hS]), fun U hU hW => ⟨rfl, by rw [hU]; exact hP, va_K.moved hW.alike hK⟩⟩
theorem fa_in (hs : Sp ad N A) : ∀ q, FA ad N q → A q := fun q h => by
  obtain ⟨i, hi, rfl⟩ := h
  exact hs.2 i hi
theorem cwG {y : MethodName} {bytes : ByteArray} {maxL n index : Nat} {ret : Option FieldType} {C : String} {rm : Room} (hts : ∀ w ∈ lw_g, w.before args s = true) (hC : CmV C y bytes maxL ret n) (hq : Cond.methodLink own index y ∈ lw_g) (hR : rm.frames + 1 ≤ R.frames ∧ 8 + (maxL + 11) + rm.locals ≤ R.locals) : CallW R s args own C index y bytes maxL ret (wG (.code y bytes maxL ret)) rm rm.cells rm.slots n := by
  obtain ⟨h1, h2, h3, h4, h5⟩ := hC
  refine cwV (Ts := lw_g) n hts (fun w hw => ?_) rfl rfl rfl h5 hR
  rcases List.mem_append.mp hw with hw | hw
  · have : w = .methodLink own index y ∨ w = .instanceMethod y ∨ w = .selects C y y ∨ w = .initialized C := by simpa using hw
    rcases this with rfl | rfl | rfl | rfl
    · exact ⟨hq, good_in hq⟩
    · exact ⟨h1, good_in h1⟩
    · exact ⟨h2, good_in h2⟩
    · exact ⟨h3, good_in h3⟩
  · exact gT h4 w hw
theorem cwT {y : MethodName} {bytes : ByteArray} {maxL n index : Nat} {ret : Option FieldType} {rm : Room} (hts : ∀ w ∈ lw_g, w.before args s = true) (hC : CmS y bytes maxL ret n) (hq : Cond.methodLink own index y ∈ lw_g) (hR : rm.frames + 1 ≤ R.frames ∧ 8 + (maxL + 11) + rm.locals ≤ R.locals) : CallB R s args own index y bytes maxL ret (wG (.code y bytes maxL ret)) rm rm.cells rm.slots n ∧ (Cond.static y).before args s = true := by
  obtain ⟨h1, h2, h3, h5⟩ := hC
  refine va_cwS (Ts := lw_g) n hts (fun w hw => ?_) rfl rfl rfl h5 hR
  rcases List.mem_append.mp hw with hw | hw
  · have : w = .methodLink own index y ∨ w = .static y ∨ w = .initialized y.cls := by simpa using hw
    rcases this with rfl | rfl | rfl
    · exact ⟨hq, good_in hq⟩
    · exact ⟨h1, good_in h1⟩
    · exact ⟨h2, good_in h2⟩
  · exact gT h3 w hw
theorem xcVi {y : MethodName} {bytes : ByteArray} {maxL n nL index d : Nat} {ret : Option FieldType} {post : Int32 → SS → Prop} {As : List Value} (E : Ev p s m args c cc own g) (hs : Sp ad N A) (hQ : Hp g ad N S A H0 H locs) (hml : c.maxLocals = nL) (hls : ls.size = nL) (k : Nat)
    (hM : Met l y (wG (.code y bytes maxL ret)) (Rm d) (XPre g ad N S (.ref (ad k) :: As)) (va_Qi post (QB g ad N) (FA ad N)) 0 0 (FA ad N)) {q : vw_C} (hC : CmV q.1 y bytes maxL ret n) (hq : Cond.methodLink own index y ∈ lw_g) (hk : k < N) {ci : Nat} {fs : List Value} (hS : S k = .inr (ci, fs)) (hc : vwCl[ci]? = some q) (hn : As.length = n) (hcs : cells ≤ R.cells ∧ slots ≤ R.slots) (hR : d + 1 ≤ R.frames ∧ 8 + (maxL + 11) + 64 * d ≤ R.locals) (hrest : (rest.map fun v => v.category).sum ≤ 8) {st : List Value} (hst : st = As.reverse ++ .ref (ad k) :: rest) (hdg : decode cc pc = .ok (.invokevirtual index, 3))
    (kk : ∀ (r : Int32) (S' : SS) (H1 : Heap) (locs1 : List Loc), post r S' → Hp g ad N S' A H0 H1 locs1 → (∀ q : Nat, q < H.size → ¬ FA ad N q → H1[q]? = H[q]?) → W p l e R s m args below meth c H1 locs1 cells slots Q (F0 m (pc + 3) ls (.int r :: rest))) : W p l e R s m args below meth c H locs cells slots Q (F0 m pc ls st) := by
  refine va_calli (va_runV (As := As) (rest := rest) ⟨E.1, E.2.1, hml, E.2.2.1, E.2.2.2.1⟩ hM (cwG E.2.2.2.1 hC hq hR) (xpreV hQ.1 E.2.2.2.2 k hk hS hc) rfl hn hls hst (lv_room hrest) hdg hcs) hQ.2 (fun q _ h => fa_in hs q h) (fa_in hs) (fun r u t H1 locs1 ht hvm hp hB hz hk1 hS1 => ?_)
  exact kk r u H1 locs1 hp ⟨by rw [← ht]; exact hB, hS1⟩ hk1
theorem xcVv {y : MethodName} {bytes : ByteArray} {maxL n nL index d : Nat} {ret : Option FieldType} {post : SS → Prop} {As : List Value} (E : Ev p s m args c cc own g) (hs : Sp ad N A) (hQ : Hp g ad N S A H0 H locs) (hml : c.maxLocals = nL) (hls : ls.size = nL) (k : Nat)
    (hM : Met l y (wG (.code y bytes maxL ret)) (Rm d) (XPre g ad N S (.ref (ad k) :: As)) (va_Qv post (QB g ad N) (FA ad N)) 0 0 (FA ad N)) {q : vw_C} (hC : CmV q.1 y bytes maxL ret n) (hq : Cond.methodLink own index y ∈ lw_g) (hk : k < N) {ci : Nat} {fs : List Value} (hS : S k = .inr (ci, fs)) (hc : vwCl[ci]? = some q) (hn : As.length = n) (hcs : cells ≤ R.cells ∧ slots ≤ R.slots) (hR : d + 1 ≤ R.frames ∧ 8 + (maxL + 11) + 64 * d ≤ R.locals) (hrest : (rest.map fun v => v.category).sum ≤ 8) {st : List Value} (hst : st = As.reverse ++ .ref (ad k) :: rest) (hdg : decode cc pc = .ok (.invokevirtual index, 3))
    (kk : ∀ (S' : SS) (H1 : Heap) (locs1 : List Loc), post S' → Hp g ad N S' A H0 H1 locs1 → (∀ q : Nat, q < H.size → ¬ FA ad N q → H1[q]? = H[q]?) → W p l e R s m args below meth c H1 locs1 cells slots Q (F0 m (pc + 3) ls rest)) : W p l e R s m args below meth c H locs cells slots Q (F0 m pc ls st) := by
  refine va_callv (va_runV (As := As) (rest := rest) ⟨E.1, E.2.1, hml, E.2.2.1, E.2.2.2.1⟩ hM (cwG E.2.2.2.1 hC hq hR) (xpreV hQ.1 E.2.2.2.2 k hk hS hc) rfl hn hls hst (lv_room hrest) hdg hcs) hQ.2 (fun q _ h => fa_in hs q h) (fa_in hs) (fun u t H1 locs1 ht hvm hp hB hz hk1 hS1 => ?_)
  exact kk u H1 locs1 hp ⟨by rw [← ht]; exact hB, hS1⟩ hk1
theorem xcSi {y : MethodName} {bytes : ByteArray} {maxL n nL index d : Nat} {ret : Option FieldType} {post : Int32 → SS → Prop} {As : List Value} (E : Ev p s m args c cc own g) (hs : Sp ad N A) (hQ : Hp g ad N S A H0 H locs) (hml : c.maxLocals = nL) (hls : ls.size = nL)
    (hM : Met l y (wG (.code y bytes maxL ret)) (Rm d) (XPre g ad N S As) (va_Qi post (QB g ad N) (FA ad N)) 0 0 (FA ad N)) (hC : CmS y bytes maxL ret n) (hq : Cond.methodLink own index y ∈ lw_g) (hn : As.length = n) (hcs : cells ≤ R.cells ∧ slots ≤ R.slots) (hR : d + 1 ≤ R.frames ∧ 8 + (maxL + 11) + 64 * d ≤ R.locals) (hrest : (rest.map fun v => v.category).sum ≤ 8) {st : List Value} (hst : st = As.reverse ++ rest) (hdg : decode cc pc = .ok (.invokestatic index, 3))
    (kk : ∀ (r : Int32) (S' : SS) (H1 : Heap) (locs1 : List Loc), post r S' → Hp g ad N S' A H0 H1 locs1 → W p l e R s m args below meth c H1 locs1 cells slots Q (F0 m (pc + 3) ls (.int r :: rest))) : W p l e R s m args below meth c H locs cells slots Q (F0 m pc ls st) := by
  refine va_calli (va_runS (As := As) (rest := rest) ⟨E.1, E.2.1, hml, E.2.2.1, E.2.2.2.1⟩ hM (cwT E.2.2.2.1 hC hq hR) (xpreS hQ.1 E.2.2.2.2) rfl hn hls hst (lv_room hrest) hdg hcs) hQ.2 (fun q _ h => fa_in hs q h) (fa_in hs) (fun r u t H1 locs1 ht hvm hp hB hz hk1 hS1 => ?_)
  exact kk r u H1 locs1 hp ⟨by rw [← ht]; exact hB, hS1⟩
theorem xcSl {y : MethodName} {bytes : ByteArray} {maxL n nL index d : Nat} {ret : Option FieldType} {post : Int64 → SS → Prop} {As : List Value} (E : Ev p s m args c cc own g) (hs : Sp ad N A) (hQ : Hp g ad N S A H0 H locs) (hml : c.maxLocals = nL) (hls : ls.size = nL)
    (hM : Met l y (wG (.code y bytes maxL ret)) (Rm d) (XPre g ad N S As) (va_Ql post (QB g ad N) (FA ad N)) 0 0 (FA ad N)) (hC : CmS y bytes maxL ret n) (hq : Cond.methodLink own index y ∈ lw_g) (hn : As.length = n) (hcs : cells ≤ R.cells ∧ slots ≤ R.slots) (hR : d + 1 ≤ R.frames ∧ 8 + (maxL + 11) + 64 * d ≤ R.locals) (hrest : (rest.map fun v => v.category).sum ≤ 8) {st : List Value} (hst : st = As.reverse ++ rest) (hdg : decode cc pc = .ok (.invokestatic index, 3))
    (kk : ∀ (r : Int64) (S' : SS) (H1 : Heap) (locs1 : List Loc), post r S' → Hp g ad N S' A H0 H1 locs1 → W p l e R s m args below meth c H1 locs1 cells slots Q (F0 m (pc + 3) ls (.long r :: rest))) : W p l e R s m args below meth c H locs cells slots Q (F0 m pc ls st) := by
  refine va_calll (va_runS (As := As) (rest := rest) ⟨E.1, E.2.1, hml, E.2.2.1, E.2.2.2.1⟩ hM (cwT E.2.2.2.1 hC hq hR) (xpreS hQ.1 E.2.2.2.2) rfl hn hls hst (lv_room hrest) hdg hcs) hQ.2 (fun q _ h => fa_in hs q h) (fa_in hs) (fun r u t H1 locs1 ht hvm hp hB hz hk1 hS1 => ?_)
  exact kk r u H1 locs1 hp ⟨by rw [← ht]; exact hB, hS1⟩
theorem xcSv {y : MethodName} {bytes : ByteArray} {maxL n nL index d : Nat} {ret : Option FieldType} {post : SS → Prop} {As : List Value} (E : Ev p s m args c cc own g) (hs : Sp ad N A) (hQ : Hp g ad N S A H0 H locs) (hml : c.maxLocals = nL) (hls : ls.size = nL)
    (hM : Met l y (wG (.code y bytes maxL ret)) (Rm d) (XPre g ad N S As) (va_Qv post (QB g ad N) (FA ad N)) 0 0 (FA ad N)) (hC : CmS y bytes maxL ret n) (hq : Cond.methodLink own index y ∈ lw_g) (hn : As.length = n) (hcs : cells ≤ R.cells ∧ slots ≤ R.slots) (hR : d + 1 ≤ R.frames ∧ 8 + (maxL + 11) + 64 * d ≤ R.locals) (hrest : (rest.map fun v => v.category).sum ≤ 8) {st : List Value} (hst : st = As.reverse ++ rest) (hdg : decode cc pc = .ok (.invokestatic index, 3))
    (kk : ∀ (S' : SS) (H1 : Heap) (locs1 : List Loc), post S' → Hp g ad N S' A H0 H1 locs1 → W p l e R s m args below meth c H1 locs1 cells slots Q (F0 m (pc + 3) ls rest)) : W p l e R s m args below meth c H locs cells slots Q (F0 m pc ls st) := by
  refine va_callv (va_runS (As := As) (rest := rest) ⟨E.1, E.2.1, hml, E.2.2.1, E.2.2.2.1⟩ hM (cwT E.2.2.2.1 hC hq hR) (xpreS hQ.1 E.2.2.2.2) rfl hn hls hst (lv_room hrest) hdg hcs) hQ.2 (fun q _ h => fa_in hs q h) (fa_in hs) (fun u t H1 locs1 ht hvm hp hB hz hk1 hS1 => ?_)
  exact kk u H1 locs1 hp ⟨by rw [← ht]; exact hB, hS1⟩
/-- a method's end -/
theorem xri {post : Int32 → SS → Prop} {v : Int32} (E : Ev p s m args c cc own g) (hr : meth.sig.returnType = some .int) (hlk : meth.locks = false) (hQ : Hp g ad N S (FA ad N) s.heap H locs) (hp : post v S) (hdg : decode cc pc = .ok (.ireturn, 1)) :
    W p l e R s m args below meth c H locs cells slots (MQ below (va_Qi post (QB g ad N) (FA ad N)) args s cells slots (FA ad N)) (F0 m pc ls [.int v]) :=
  W.iret E.1 E.2.1 hr (fun t ht hW => ⟨⟨v, S, rfl, hp, by show PW g ad N S t.heap; rw [ht]; exact hQ.1⟩, hQ.2.F ht⟩) hQ.2.2.2 hdg hlk
theorem xrz {post : Int32 → SS → Prop} {v : Int32} (E : Ev p s m args c cc own g) (hr : meth.sig.returnType = some .boolean) (hlk : meth.locks = false) (hQ : Hp g ad N S (FA ad N) s.heap H locs) (hn : narrow .boolean (.int v) = .int v) (hp : post v S) (hdg : decode cc pc = .ok (.ireturn, 1)) :
    W p l e R s m args below meth c H locs cells slots (MQ below (va_Qi post (QB g ad N) (FA ad N)) args s cells slots (FA ad N)) (F0 m pc ls [.int v]) :=
  W.zret E.1 E.2.1 hr hn (fun t ht hW => ⟨⟨v, S, rfl, hp, by show PW g ad N S t.heap; rw [ht]; exact hQ.1⟩, hQ.2.F ht⟩) hQ.2.2.2 hdg hlk
theorem xrv {post : SS → Prop} (E : Ev p s m args c cc own g) (hr : meth.sig.returnType = none) (hlk : meth.locks = false) (hQ : Hp g ad N S (FA ad N) s.heap H locs) (hp : post S) (hdg : decode cc pc = .ok (.return_, 1)) :
    W p l e R s m args below meth c H locs cells slots (MQ below (va_Qv post (QB g ad N) (FA ad N)) args s cells slots (FA ad N)) (F0 m pc ls []) :=
  W.vret E.1 E.2.1 hr (fun t ht hW => ⟨⟨S, rfl, hp, by show PW g ad N S t.heap; rw [ht]; exact hQ.1⟩, hQ.2.F ht⟩) hQ.2.2.2 hdg hlk
theorem xrl {post : Int64 → SS → Prop} {v : Int64} (E : Ev p s m args c cc own g) (hr : meth.sig.returnType = some .long) (hlk : meth.locks = false) (hQ : Hp g ad N S (FA ad N) s.heap H locs) (hp : post v S) (hdg : decode cc pc = .ok (.lreturn, 1)) :
    W p l e R s m args below meth c H locs cells slots (MQ below (va_Ql post (QB g ad N) (FA ad N)) args s cells slots (FA ad N)) (F0 m pc ls [.long v]) :=
  W.lret E.1 E.2.1 hr (fun t ht hW => ⟨⟨v, S, rfl, hp, by show PW g ad N S t.heap; rw [ht]; exact hQ.1⟩, hQ.2.F ht⟩) hQ.2.2.2 hdg hlk
end XR
/-- a method's beginning -/
theorem xmet {l : Launch} {g : GG} {ad : Nat → Nat} {N : Nat} {S : SS} {y : MethodName} {maxL : Nat} {ret : Option FieldType} {rm : Room} {av : List Value} {Qc : Array Value → State → Outcome → State → Prop} {mc ms : Nat} {free : Addr → Prop} (cc : ByteArray) (own : String) (hy : plainName y.cls = true) (hown : y.cls = own) (hlen : (lg_sl av).length ≤ maxL)
    (body : ∀ (p : Program) (e : Env) (s : State) (m : MethodId) (below : List Frame) (meth : Method) (c : Code), Ev p s m av.toArray c cc own g → meth.sig.returnType = ret → meth.locks = false → c.maxLocals = maxL → Hp g ad N S (FA ad N) s.heap s.heap [] → ∀ ls : Array Slot, lv_has ls maxL (lv_args 0 av) →
      W p l e rm s m av.toArray below meth c s.heap [] 0 0 (MQ below Qc av.toArray s mc ms free) (F0 m 0 ls [])) : Met l y (wG (.code y cc maxL ret)) rm (XPre g ad N S av) Qc mc ms free := by
  refine Met.ofW (cc := cc) (maxL := maxL) (ret := ret) hy rfl ?_
  intro p e s m args below meth c s₁ B hml hv
  obtain ⟨rfl, hP, hK⟩ := hv
  have hts := atoms_spec (ws := wG (.code y cc maxL ret)) B.pre
  have hown2 : s.vm.findClass y.cls = some m.cls := findClass_of_methodNamed B.named
  rw [hown] at hown2
  have hl := lv_entry av (n := maxL) hlen
  rw [lg_entry_eq]
  exact body p e s m below meth c ⟨B.exec, B.bytes, hown2, fun w h => hts w (List.mem_cons_of_mem _ h), hK⟩ B.returns B.notSynchronized hml ⟨hP, va_S.rf⟩ _ hl
