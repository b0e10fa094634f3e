-- the one word list for all contracts, and contracts in three kinds: reading only (cu_R), writing (cu_W, cu_V, cu_L, cu_Q)
theorem cu_fm {α β : Type} {f : α → Option β} {is : List α} {wc : List β} (h : is.map f = wc.map some) : is.filterMap f = wc := by
  have h1 := congrArg (List.filterMap id) h
  simpa [List.filterMap_map] using h1
abbrev cu_TY (cI cZ cQ : ClassId) : List (ClassId × FieldType) := [(cI, .int), (cZ, .boolean), (cQ, .object "CommonUnits$Hoard")]
def cu_N (U : State) : Prop := va_AO "CommonUnits$Hoard" U ∧ va_Nw (.methodLinkNest RX8 11 yX7_init RX8) U ∧ va_Nw (.methodLinkNest RX8 18 yX3_init RX8) U ∧ va_Nw (.methodLinkNest RX8 28 yX0_init RX8) U ∧ va_Nw (.methodLinkNest RX8 35 yX1_init RX8) U ∧ va_Nw (.methodLinkNest RX8 42 yX4_init RX8) U ∧ va_Nw (.methodLinkNest RX8 186 yX6_init RX8) U
def cu_K (D : va_G) (TY : List (ClassId × FieldType)) (U : State) : Prop := va_K D vwCl TY U ∧ cu_N U
theorem cu_K.warm {D : va_G} {TY : List (ClassId × FieldType)} {s U : State} (hW : s.WarmedH U.vm) (h : cu_K D TY s) : cu_K D TY U := by
  obtain ⟨h1, h2, a1, a2, a3, a4, a5, a6⟩ := h
  exact ⟨va_K.moved hW.alike h1, va_AO.moved hW.alike h2, a1.warmM hW, a2.warmM hW, a3.warmM hW, a4.warmM hW, a5.warmM hW, a6.warmM hW⟩
theorem cu_K.call {D : va_G} {TY : List (ClassId × FieldType)} {U : State} {g : JFrame} {mk : MethodId} {a : Array Value} (h : cu_K D TY U) : cu_K D TY (U.calling g mk a) := by
  obtain ⟨h1, h2, a1, a2, a3, a4, a5, a6⟩ := h
  exact ⟨va_K.moved (u := U) (U := U.calling g mk a) (Vm.Alike.refl U.vm) h1, va_AO.moved (u := U) (U := U.calling g mk a) (Vm.Alike.refl U.vm) h2, a1.same rfl rfl, a2.same rfl rfl, a3.same rfl rfl, a4.same rfl rfl, a5.same rfl rfl, a6.same rfl rfl⟩
abbrev cu_rm (fr lo mc ms : Nat) : Room := { frames := fr, cells := mc, slots := ms, locals := lo }
def cu_R (l : Launch) (D : va_G) (TY : List (ClassId × FieldType)) (y : MethodName) (cc : ByteArray) (mL : Nat) (rt : FieldType) (fr lo : Nat) (av : List Value) (ws : va_W) (post : Int32 → Prop) : Prop :=
  Met l y (Cond.code y cc mL (some rt) :: cu_G) (cu_rm fr lo 0 0) (va_Pc av (fun U => va_P D vwCl ws U.heap ∧ cu_K D TY U)) (vp_Si post) 0 0 (fun _ => False)
def cu_pre (D : va_G) (TY : List (ClassId × FieldType)) (ws : va_W) (sz : Nat) (U : State) : Prop := U.heap.size = sz ∧ va_P D vwCl ws U.heap ∧ cu_K D TY U ∧ va_D (fun _ => True) ws
def cu_B (D : va_G) (ws : va_W) (sz : Nat) (w : va_W) (t : State) : Prop := va_P D vwCl w t.heap ∧ va_D (va_A ws sz) w
def cu_W (l : Launch) (D : va_G) (TY : List (ClassId × FieldType)) (y : MethodName) (cc : ByteArray) (mL : Nat) (rt : FieldType) (fr lo mc ms : Nat) (av : List Value) (ws : va_W) (post : Int32 → va_W → Prop) : Prop :=
  ∀ sz : Nat, Met l y (Cond.code y cc mL (some rt) :: cu_G) (cu_rm fr lo mc ms) (va_Pc av (cu_pre D TY ws sz)) (va_Qi post (cu_B D ws sz) (va_A ws sz)) mc ms (va_A ws sz)
def cu_V (l : Launch) (D : va_G) (TY : List (ClassId × FieldType)) (y : MethodName) (cc : ByteArray) (mL : Nat) (fr lo mc ms : Nat) (av : List Value) (ws : va_W) (post : va_W → Prop) : Prop :=
  ∀ sz : Nat, Met l y (Cond.code y cc mL none :: cu_G) (cu_rm fr lo mc ms) (va_Pc av (cu_pre D TY ws sz)) (va_Qv post (cu_B D ws sz) (va_A ws sz)) mc ms (va_A ws sz)
def cu_L (l : Launch) (D : va_G) (TY : List (ClassId × FieldType)) (y : MethodName) (cc : ByteArray) (mL : Nat) (fr lo mc ms : Nat) (av : List Value) (ws : va_W) (post : Int64 → va_W → Prop) : Prop :=
  ∀ sz : Nat, Met l y (Cond.code y cc mL (some .long) :: cu_G) (cu_rm fr lo mc ms) (va_Pc av (cu_pre D TY ws sz)) (va_Ql post (cu_B D ws sz) (va_A ws sz)) mc ms (va_A ws sz)
def cu_Q (l : Launch) (D : va_G) (TY : List (ClassId × FieldType)) (y : MethodName) (cc : ByteArray) (mL : Nat) (rt : String) (fr lo mc ms : Nat) (av : List Value) (ws : va_W) (post : Nat × va_W → Prop) : Prop :=
  ∀ sz : Nat, Met l y (Cond.code y cc mL (some (.object rt)) :: cu_G) (cu_rm fr lo mc ms) (va_Pc av (cu_pre D TY ws sz)) (va_Qr post (fun u a t => u.1 = a ∧ cu_B D ws sz u.2 t) (va_A ws sz)) mc ms (va_A ws sz)
theorem cu_R.intro {l : Launch} {D : va_G} {TY : List (ClassId × FieldType)} {y : MethodName} {cc : ByteArray} {mL : Nat} {rt : FieldType} {fr lo : Nat} {av : List Value} {ws : va_W} {post : Int32 → Prop}
    (hy : plainName y.cls = true) (hlen : (lg_sl av).length ≤ mL)
    (body : ∀ (p : Program) (e : Env) (s : State) (m : MethodId) (args : Array Value) (below : List Frame) (meth : Method) (c : Code) (Q : State → Prop) (ls : Array Slot),
      CallFix p m c cc mL s args cu_G y.cls →
      (∀ (pc : Nat) (ls : Array Slot) (v : Int32), decode cc pc = .ok (.ireturn, 1) → narrow rt (.int v) = .int v → post v → W p l e (cu_rm fr lo 0 0) s m args below meth c s.heap [] 0 0 Q (F0 m pc ls [.int v])) →
      va_P D vwCl ws s.heap → cu_K D TY s → lv_has ls mL (lv_args 0 av) →
      W p l e (cu_rm fr lo 0 0) s m args below meth c s.heap [] 0 0 Q (F0 m 0 ls [])) : cu_R l D TY y cc mL rt fr lo av ws post := by
  refine Met.ofW (cc := cc) (maxL := mL) (ret := some rt) hy rfl ?_
  intro p e s m args below meth c s₁ B hml hv
  obtain ⟨rfl, hP, hK⟩ := hv
  have hts := atoms_spec (ws := Cond.code y cc mL (some rt) :: cu_G) B.pre
  have hown : s.vm.findClass y.cls = some m.cls := findClass_of_methodNamed B.named
  have hlocks := B.notSynchronized
  have hl := lv_entry av (n := mL) hlen
  rw [lg_entry_eq]
  exact body p e s m _ below meth c _ _ ⟨B.exec, B.bytes, hml, hown, fun w h => hts w (List.mem_cons_of_mem _ h)⟩
    (fun pc ls v hd hn hp => W.zret B.exec B.bytes B.returns hn (fun t ht hW => ⟨v, rfl, hp, ht⟩) (fun _ h => by cases h) hd) hP hK hl
theorem cu_W.intro {l : Launch} {D : va_G} {TY : List (ClassId × FieldType)} {y : MethodName} {cc : ByteArray} {mL : Nat} {rt : FieldType} {fr lo mc ms : Nat} {av : List Value} {ws : va_W} {post : Int32 → va_W → Prop}
    (hy : plainName y.cls = true) (hlen : (lg_sl av).length ≤ mL)
    (body : ∀ (p : Program) (e : Env) (s : State) (m : MethodId) (args : Array Value) (below : List Frame) (meth : Method) (c : Code) (Q : State → Prop) (ls : Array Slot) (A : Nat → Prop),
      CallFix p m c cc mL s args cu_G y.cls →
      (∀ (H : Heap) (locs : List Loc) (k n : Nat) (w : va_W) (pc : Nat) (ls : Array Slot) (v : Int32), va_P D vwCl w H → va_D A w → va_S A s.heap H locs → k ≤ mc → n ≤ ms → decode cc pc = .ok (.ireturn, 1) → narrow rt (.int v) = .int v → post v w → W p l e (cu_rm fr lo mc ms) s m args below meth c H locs k n Q (F0 m pc ls [.int v])) →
      va_P D vwCl ws s.heap → va_D A ws → va_S A s.heap s.heap [] → (∀ q : Nat, s.heap.size ≤ q → A q) → cu_K D TY s → lv_has ls mL (lv_args 0 av) →
      W p l e (cu_rm fr lo mc ms) s m args below meth c s.heap [] 0 0 Q (F0 m 0 ls [])) : cu_W l D TY y cc mL rt fr lo mc ms av ws post := by
  intro sz
  refine Met.ofW (cc := cc) (maxL := mL) (ret := some rt) hy rfl ?_
  intro p e s m args below meth c s₁ B hml hv
  obtain ⟨rfl, hsz, hP, hK, hD0⟩ := hv
  subst hsz
  have hts := atoms_spec (ws := Cond.code y cc mL (some rt) :: cu_G) B.pre
  have hown : s.vm.findClass y.cls = some m.cls := findClass_of_methodNamed B.named
  have hlocks := B.notSynchronized
  have hl := lv_entry av (n := mL) hlen
  rw [lg_entry_eq]
  exact body p e s m _ below meth c _ _ (va_A ws s.heap.size) ⟨B.exec, B.bytes, hml, hown, fun w h => hts w (List.mem_cons_of_mem _ h)⟩
    (fun H locs k n w pc ls v h1 h2 h3 hk hn hd hna hp => W.widen hk hn (W.zret B.exec B.bytes B.returns hna (fun t ht hW => ⟨⟨v, w, rfl, hp, by rw [ht]; exact h1, h2⟩, h3.F ht⟩) h3.2.2 hd)) hP hD0.self va_S.rf (fun q h => Or.inr h) hK hl
theorem cu_V.intro {l : Launch} {D : va_G} {TY : List (ClassId × FieldType)} {y : MethodName} {cc : ByteArray} {mL : Nat} {fr lo mc ms : Nat} {av : List Value} {ws : va_W} {post : va_W → Prop}
    (hy : plainName y.cls = true) (hlen : (lg_sl av).length ≤ mL)
    (body : ∀ (p : Program) (e : Env) (s : State) (m : MethodId) (args : Array Value) (below : List Frame) (meth : Method) (c : Code) (Q : State → Prop) (ls : Array Slot) (A : Nat → Prop),
      CallFix p m c cc mL s args cu_G y.cls → meth.name = y.name →
      (∀ (H : Heap) (locs : List Loc) (k n : Nat) (w : va_W) (pc : Nat) (ls : Array Slot), va_P D vwCl w H → va_D A w → va_S A s.heap H locs → k ≤ mc → n ≤ ms → decode cc pc = .ok (.return_, 1) → post w → W p l e (cu_rm fr lo mc ms) s m args below meth c H locs k n Q (F0 m pc ls [])) →
      va_P D vwCl ws s.heap → va_D A ws → va_S A s.heap s.heap [] → (∀ q : Nat, s.heap.size ≤ q → A q) → cu_K D TY s → lv_has ls mL (lv_args 0 av) →
      W p l e (cu_rm fr lo mc ms) s m args below meth c s.heap [] 0 0 Q (F0 m 0 ls [])) : cu_V l D TY y cc mL fr lo mc ms av ws post := by
  intro sz
  refine Met.ofW (cc := cc) (maxL := mL) (ret := none) hy rfl ?_
  intro p e s m args below meth c s₁ B hml hv
  obtain ⟨rfl, hsz, hP, hK, hD0⟩ := hv
  subst hsz
  have hts := atoms_spec (ws := Cond.code y cc mL none :: cu_G) B.pre
  have hown : s.vm.findClass y.cls = some m.cls := findClass_of_methodNamed B.named
  have hlocks := B.notSynchronized
  have hin : meth.name = y.name := (name_of_methodNamed B.named B.method).1
  have hl := lv_entry av (n := mL) hlen
  rw [lg_entry_eq]
  exact body p e s m _ below meth c _ _ (va_A ws s.heap.size) ⟨B.exec, B.bytes, hml, hown, fun w h => hts w (List.mem_cons_of_mem _ h)⟩ hin
    (fun H locs k n w pc ls h1 h2 h3 hk hn hd hp => W.widen hk hn (W.vret B.exec B.bytes B.returns (fun t ht hW => ⟨⟨w, rfl, hp, by rw [ht]; exact h1, h2⟩, h3.F ht⟩) h3.2.2 hd)) hP hD0.self va_S.rf (fun q h => Or.inr h) hK hl
theorem cu_L.intro {l : Launch} {D : va_G} {TY : List (ClassId × FieldType)} {y : MethodName} {cc : ByteArray} {mL : Nat} {fr lo mc ms : Nat} {av : List Value} {ws : va_W} {post : Int64 → va_W → Prop}
    (hy : plainName y.cls = true) (hlen : (lg_sl av).length ≤ mL)
    (body : ∀ (p : Program) (e : Env) (s : State) (m : MethodId) (args : Array Value) (below : List Frame) (meth : Method) (c : Code) (Q : State → Prop) (ls : Array Slot) (A : Nat → Prop),
      CallFix p m c cc mL s args cu_G y.cls →
      (∀ (H : Heap) (locs : List Loc) (k n : Nat) (w : va_W) (pc : Nat) (ls : Array Slot) (v : Int64), va_P D vwCl w H → va_D A w → va_S A s.heap H locs → k ≤ mc → n ≤ ms → decode cc pc = .ok (.lreturn, 1) → post v w → W p l e (cu_rm fr lo mc ms) s m args below meth c H locs k n Q (F0 m pc ls [.long v])) →
      va_P D vwCl ws s.heap → va_D A ws → va_S A s.heap s.heap [] → (∀ q : Nat, s.heap.size ≤ q → A q) → cu_K D TY s → lv_has ls mL (lv_args 0 av) →
      W p l e (cu_rm fr lo mc ms) s m args below meth c s.heap [] 0 0 Q (F0 m 0 ls [])) : cu_L l D TY y cc mL fr lo mc ms av ws post := by
  intro sz
  refine Met.ofW (cc := cc) (maxL := mL) (ret := some .long) hy rfl ?_
  intro p e s m args below meth c s₁ B hml hv
  obtain ⟨rfl, hsz, hP, hK, hD0⟩ := hv
  subst hsz
  have hts := atoms_spec (ws := Cond.code y cc mL (some .long) :: cu_G) B.pre
  have hown : s.vm.findClass y.cls = some m.cls := findClass_of_methodNamed B.named
  have hlocks := B.notSynchronized
  have hl := lv_entry av (n := mL) hlen
  rw [lg_entry_eq]
  exact body p e s m _ below meth c _ _ (va_A ws s.heap.size) ⟨B.exec, B.bytes, hml, hown, fun w h => hts w (List.mem_cons_of_mem _ h)⟩
    (fun H locs k n w pc ls v h1 h2 h3 hk hn hd hp => W.widen hk hn (W.lret B.exec B.bytes B.returns (fun t ht hW => ⟨⟨v, w, rfl, hp, by rw [ht]; exact h1, h2⟩, h3.F ht⟩) h3.2.2 hd)) hP hD0.self va_S.rf (fun q h => Or.inr h) hK hl
theorem cu_Q.intro {l : Launch} {D : va_G} {TY : List (ClassId × FieldType)} {y : MethodName} {cc : ByteArray} {mL : Nat} {rt : String} {fr lo mc ms : Nat} {av : List Value} {ws : va_W} {post : Nat × va_W → Prop}
    (hy : plainName y.cls = true) (hlen : (lg_sl av).length ≤ mL)
    (body : ∀ (p : Program) (e : Env) (s : State) (m : MethodId) (args : Array Value) (below : List Frame) (meth : Method) (c : Code) (Q : State → Prop) (ls : Array Slot) (A : Nat → Prop),
      CallFix p m c cc mL s args cu_G y.cls →
      (∀ (H : Heap) (locs : List Loc) (k n : Nat) (w : va_W) (pc : Nat) (ls : Array Slot) (v : Nat), va_P D vwCl w H → va_D A w → va_S A s.heap H locs → k ≤ mc → n ≤ ms → decode cc pc = .ok (.areturn, 1) → post (v, w) → W p l e (cu_rm fr lo mc ms) s m args below meth c H locs k n Q (F0 m pc ls [.ref v])) →
      va_P D vwCl ws s.heap → va_D A ws → va_S A s.heap s.heap [] → (∀ q : Nat, s.heap.size ≤ q → A q) → cu_K D TY s → lv_has ls mL (lv_args 0 av) →
      W p l e (cu_rm fr lo mc ms) s m args below meth c s.heap [] 0 0 Q (F0 m 0 ls [])) : cu_Q l D TY y cc mL rt fr lo mc ms av ws post := by
  intro sz
  refine Met.ofW (cc := cc) (maxL := mL) (ret := some (.object rt)) hy rfl ?_
  intro p e s m args below meth c s₁ B hml hv
  obtain ⟨rfl, hsz, hP, hK, hD0⟩ := hv
  subst hsz
  have hts := atoms_spec (ws := Cond.code y cc mL (some (.object rt)) :: cu_G) B.pre
  have hown : s.vm.findClass y.cls = some m.cls := findClass_of_methodNamed B.named
  have hlocks := B.notSynchronized
  have hl := lv_entry av (n := mL) hlen
  rw [lg_entry_eq]
  exact body p e s m _ below meth c _ _ (va_A ws s.heap.size) ⟨B.exec, B.bytes, hml, hown, fun w h => hts w (List.mem_cons_of_mem _ h)⟩
    (fun H locs k n w pc ls v h1 h2 h3 hk hn hd hp => W.widen hk hn (W.aret B.exec B.bytes B.returns (Or.inl ⟨_, rfl⟩) (Or.inr ⟨_, rfl⟩) (fun t ht hW => ⟨⟨(v, w), v, rfl, hp, rfl, by rw [ht]; exact h1, h2⟩, h3.F ht⟩) h3.2.2 hd)) hP hD0.self va_S.rf (fun q h => Or.inr h) hK hl

theorem cu_clamp {j : Nat} (h : j < 2 ^ 31) : (nI j).toNatClampNeg = j := by
  have h1 : (nI j).toNatClampNeg = (nI j).toInt.toNat := rfl
  rw [h1, nI_toInt h]; rfl
/-- between two ints, as numbers -/
theorem cu_le {a b : Int32} : a ≤ b ↔ a.toInt ≤ b.toInt := Int32.le_iff_toInt_le
theorem cu_lt {a b : Int32} : a < b ↔ a.toInt < b.toInt := Int32.lt_iff_toInt_lt
theorem cu_out9 {x : Int32} (h0 : ¬ x = 0) (h1 : ¬ x = 1) (h2 : ¬ x = 2) (h3 : ¬ x = 3) (h4 : ¬ x = 4) (h5 : ¬ x = 5) (h6 : ¬ x = 6) (h7 : ¬ x = 7) (h8 : ¬ x = 8) : x.toInt < 0 ∨ 8 < x.toInt := by
  have a0 := lv_neT (a := 0) h0 (by decide); have a1 := lv_neT (a := 1) h1 (by decide); have a2 := lv_neT (a := 2) h2 (by decide); have a3 := lv_neT (a := 3) h3 (by decide); have a4 := lv_neT (a := 4) h4 (by decide); have a5 := lv_neT (a := 5) h5 (by decide); have a6 := lv_neT (a := 6) h6 (by decide); have a7 := lv_neT (a := 7) h7 (by decide); have a8 := lv_neT (a := 8) h8 (by decide)
  omega
theorem cu_out6 {x : Int32} (h0 : ¬ x = 0) (h1 : ¬ x = 1) (h2 : ¬ x = 2) (h3 : ¬ x = 3) (h4 : ¬ x = 4) (h5 : ¬ x = 5) : x.toInt < 0 ∨ 5 < x.toInt := by
  have a0 := lv_neT (a := 0) h0 (by decide); have a1 := lv_neT (a := 1) h1 (by decide); have a2 := lv_neT (a := 2) h2 (by decide); have a3 := lv_neT (a := 3) h3 (by decide); have a4 := lv_neT (a := 4) h4 (by decide); have a5 := lv_neT (a := 5) h5 (by decide)
  omega
theorem cu_out4 {x : Int32} (h0 : ¬ x = 0) (h1 : ¬ x = 1) (h2 : ¬ x = 2) (h3 : ¬ x = 3) : x.toInt < 0 ∨ 3 < x.toInt := by
  have a0 := lv_neT (a := 0) h0 (by decide); have a1 := lv_neT (a := 1) h1 (by decide); have a2 := lv_neT (a := 2) h2 (by decide); have a3 := lv_neT (a := 3) h3 (by decide)
  omega
theorem cu_out3 {x : Int32} (h0 : ¬ x = 0) (h1 : ¬ x = 1) (h2 : ¬ x = 2) : x.toInt < 0 ∨ 2 < x.toInt := by
  have a0 := lv_neT (a := 0) h0 (by decide); have a1 := lv_neT (a := 1) h1 (by decide); have a2 := lv_neT (a := 2) h2 (by decide)
  omega
section CU
variable {p : Program} {l : Launch} {e : Env} {R : Room} {s : State} {m : MethodId} {args : Array Value} {below : List Frame} {meth : Method} {c : Code} {H : Heap} {locs : List Loc} {cells slots : Nat} {Q : State → Prop}
variable {cc : ByteArray} {pc : Nat} {ls : Array Slot} {rest : List Value} {D : va_G} {TY : List (ClassId × FieldType)} {A : Nat → Prop} {H0 : Heap}
theorem cu_topi {x y : Int32} (h : x = y) (k : W p l e R s m args below meth c H locs cells slots Q (F0 m pc ls (.int y :: rest))) : W p l e R s m args below meth c H locs cells slots Q (F0 m pc ls (.int x :: rest)) := h ▸ k
theorem cu_topl {x y : Int64} (h : x = y) (k : W p l e R s m args below meth c H locs cells slots Q (F0 m pc ls (.long y :: rest))) : W p l e R s m args below meth c H locs cells slots Q (F0 m pc ls (.long x :: rest)) := h ▸ k
theorem cu_topv {x y : Value} (h : x = y) (k : W p l e R s m args below meth c H locs cells slots Q (F0 m pc ls (y :: rest))) : W p l e R s m args below meth c H locs cells slots Q (F0 m pc ls (x :: rest)) := h ▸ k
abbrev cu_hd (y : MethodName) (n : Nat) : Prop := y.cls ≠ "java/lang/invoke/MethodHandle" ∧ y.cls ≠ "java/lang/invoke/VarHandle" ∧ (parseMethodDescriptor y.desc).map (fun d => d.parameters.length) = some n
theorem cu_cb {own : String} {mL index n fr lo mc ms : Nat} {y : MethodName} {bytes : ByteArray} {rt : Option FieldType} {nL : Nat}
    (S : CallFix p m c cc nL s args cu_G own) (hd : cu_hd y n) (k1 : Cond.code y bytes mL rt ∈ cu_G) (k2 : Cond.methodLink own index y ∈ cu_G) (k5 : Cond.initialized y.cls ∈ cu_G) (hR : fr + 1 ≤ R.frames ∧ 8 + (mL + 11) + lo ≤ R.locals) :
    CallB R s args own index y bytes mL rt (Cond.code y bytes mL rt :: cu_G) (cu_rm fr lo mc ms) mc ms n :=
  callB_of n S.2.2.2.2 (cu_in k1) rfl rfl rfl (S.2.2.2.2 _ k5) (S.2.2.2.2 _ k2) hd hR
theorem cu_VR {own : String} {nL mL index n fr lo : Nat} {y : MethodName} {bytes : ByteArray} {rt : FieldType} {b : Nat} {st : List Value} {wc ws : va_W} {post : Int32 → Prop} {ci : Nat} {T : u_T} {N : Nat} {fs : List Value}
    (As : List Value) (S : CallFix p m c cc nL s args cu_G own) (hM : cu_R l D TY y bytes mL rt fr lo (.ref b :: As) wc post) (hd : cu_hd y n)
    (k1 : Cond.code y bytes mL (some rt) ∈ cu_G) (k2 : Cond.methodLink own index y ∈ cu_G) (k3 : Cond.instanceMethod y ∈ cu_G) (k4 : Cond.selects y.cls y y ∈ cu_G) (k5 : Cond.initialized y.cls ∈ cu_G)
    (hR : fr + 1 ≤ R.frames ∧ 8 + (mL + 11) + lo ≤ R.locals) (hc : cells ≤ R.cells ∧ slots ≤ R.slots)
    (hP : va_P D vwCl ws H) (hK : cu_K D TY s) (is : List Nat) (hs : is.map (fun i => ws[i]?) = wc.map some) (q0 : Nat) (hb : wc[q0]? = some (b, .inr (ci, fs))) (hci : vwCl[ci]? = some (y.cls, T, N))
    (hn : As.length = n) (hsz : ls.size = nL) (hst : st = As.reverse ++ .ref b :: rest) (hrm : (rest.map fun v => v.category).sum ≤ 8) (hdg : decode cc pc = .ok (.invokevirtual index, 3))
    (kk : ∀ r : Int32, post r → W p l e R s m args below meth c H locs cells slots Q (F0 m (pc + 3) ls (.int r :: rest))) : W p l e R s m args below meth c H locs cells slots Q (F0 m pc ls st) := by
  have hPc := hP.sub (ws' := wc) is (cu_fm hs)
  refine vp_callSi (rest := rest) (va_Run.run (va_runV (As := As) (rest := rest) S hM ⟨cu_cb S hd k1 k2 k5 hR, S.2.2.2.2 _ k3, S.2.2.2.2 _ k4⟩ ⟨fun a U g mk q => ⟨q.1, q.2.1, q.2.2.call⟩, va_recv hK.1 hPc hci hb, fun U hU hW => ⟨rfl, by rw [hU]; exact hPc, hK.warm hW⟩⟩ rfl hn hsz hst (lv_room hrm) hdg hc)) kk
theorem cu_SR {own : String} {nL mL index n fr lo : Nat} {y : MethodName} {bytes : ByteArray} {rt : FieldType} {st : List Value} {wc ws : va_W} {post : Int32 → Prop}
    (As : List Value) (S : CallFix p m c cc nL s args cu_G own) (hM : cu_R l D TY y bytes mL rt fr lo As wc post) (hd : cu_hd y n)
    (k1 : Cond.code y bytes mL (some rt) ∈ cu_G) (k2 : Cond.methodLink own index y ∈ cu_G) (k3 : Cond.static y ∈ cu_G) (k5 : Cond.initialized y.cls ∈ cu_G)
    (hR : fr + 1 ≤ R.frames ∧ 8 + (mL + 11) + lo ≤ R.locals) (hc : cells ≤ R.cells ∧ slots ≤ R.slots)
    (hP : va_P D vwCl ws H) (hK : cu_K D TY s) (is : List Nat) (hs : is.map (fun i => ws[i]?) = wc.map some)
    (hn : As.length = n) (hsz : ls.size = nL) (hst : st = As.reverse ++ rest) (hrm : (rest.map fun v => v.category).sum ≤ 8) (hdg : decode cc pc = .ok (.invokestatic index, 3))
    (kk : ∀ r : Int32, post r → W p l e R s m args below meth c H locs cells slots Q (F0 m (pc + 3) ls (.int r :: rest))) : W p l e R s m args below meth c H locs cells slots Q (F0 m pc ls st) := by
  have hPc := hP.sub (ws' := wc) is (cu_fm hs)
  refine vp_callSi (rest := rest) (va_Run.run (va_runS (As := As) (rest := rest) S hM ⟨cu_cb S hd k1 k2 k5 hR, S.2.2.2.2 _ k3⟩ ⟨fun a U g mk q => ⟨q.1, q.2.1, q.2.2.call⟩, fun U hU hW => ⟨rfl, by rw [hU]; exact hPc, hK.warm hW⟩⟩ rfl hn hsz hst (lv_room hrm) hdg hc)) kk
/-- what the writing calls share: the callee's cells cut out, its start -/
theorem cu_pv {ws wc : va_W} {av : List Value} (hP : va_P D vwCl ws H) (hD : va_D A ws) (hK : cu_K D TY s) {isC : List Nat} (hC : isC.map (fun i => ws[i]?) = wc.map some) (hnC : va_nd isC = true) :
    FrameBlind (va_Pc av (cu_pre D TY wc H.size)) ∧ ∀ U : State, U.heap = H → s.WarmedH U.vm → va_Pc av (cu_pre D TY wc H.size) av.toArray U :=
  ⟨fun a U g mk q => ⟨q.1, q.2.1, q.2.2.1, q.2.2.2.1.call, q.2.2.2.2⟩, fun U hU hW => ⟨rfl, by rw [hU], by rw [hU]; exact hP.sub (ws' := wc) isC (cu_fm hC), hK.warm hW, (hD.sub (ws' := wc) isC hnC hC).weaken (fun _ _ _ _ => trivial)⟩⟩
theorem cu_VW {own : String} {nL mL index n fr lo mc ms : Nat} {y : MethodName} {bytes : ByteArray} {rt : FieldType} {b : Nat} {st : List Value} {wc wr ws : va_W} {post : Int32 → va_W → Prop} {ci : Nat} {T : u_T} {N : Nat} {fs : List Value}
    (As : List Value) (S : CallFix p m c cc nL s args cu_G own) (hM : cu_W l D TY y bytes mL rt fr lo mc ms (.ref b :: As) wc post) (hd : cu_hd y n)
    (k1 : Cond.code y bytes mL (some rt) ∈ cu_G) (k2 : Cond.methodLink own index y ∈ cu_G) (k3 : Cond.instanceMethod y ∈ cu_G) (k4 : Cond.selects y.cls y y ∈ cu_G) (k5 : Cond.initialized y.cls ∈ cu_G)
    (hR : fr + 1 ≤ R.frames ∧ 8 + (mL + 11) + lo ≤ R.locals) (hc : cells + mc ≤ R.cells ∧ slots + ms ≤ R.slots)
    (hP : va_P D vwCl ws H) (hD : va_D A ws) (hS : va_S A H0 H locs) (hA : ∀ q, H0.size ≤ q → A q) (hK : cu_K D TY s) (isC isR : List Nat) (hC : isC.map (fun i => ws[i]?) = wc.map some) (hRr : isR.map (fun i => ws[i]?) = wr.map some) (hnC : va_nd isC = true) (hnR : va_nd isR = true) (hdis : ∀ i ∈ isR, i ∉ isC)
    (q0 : Nat) (hb : wc[q0]? = some (b, .inr (ci, fs))) (hci : vwCl[ci]? = some (y.cls, T, N))
    (hn : As.length = n) (hsz : ls.size = nL) (hst : st = As.reverse ++ .ref b :: rest) (hrm : (rest.map fun v => v.category).sum ≤ 8) (hdg : decode cc pc = .ok (.invokevirtual index, 3))
    (kk : ∀ (r : Int32) (w : va_W) (H1 : Heap) (locs1 : List Loc), post r w → va_P D vwCl (wr ++ w) H1 → va_D A (wr ++ w) → va_S A H0 H1 locs1 → W p l e R s m args below meth c H1 locs1 (cells + mc) (slots + ms) Q (F0 m (pc + 3) ls (.int r :: rest))) : W p l e R s m args below meth c H locs cells slots Q (F0 m pc ls st) := by
  have hF := va_free (wc := wc) hD hS hA isC hC
  have hpv := cu_pv (av := .ref b :: As) hP hD hK hC hnC
  refine va_calli (va_runV (As := As) (rest := rest) S (hM H.size) ⟨cu_cb S hd k1 k2 k5 hR, S.2.2.2.2 _ k3, S.2.2.2.2 _ k4⟩ ⟨hpv.1, va_recv hK.1 (hP.sub (ws' := wc) isC (cu_fm hC)) hci hb, hpv.2⟩ rfl hn hsz hst (lv_room hrm) hdg hc) hS (fun q _ h => hF q h) hF (fun r w t H1 locs1 ht hvm hw hB hz1 hk1 hS1 => ?_)
  obtain ⟨hP1, hD1⟩ := hB
  rw [ht] at hP1
  obtain ⟨hP2, hD2⟩ := va_join (wr := wr) (w1 := w) hP hD isC isR hC hRr hnR hdis hk1 hF hP1 hD1
  exact kk r w H1 locs1 hw hP2 hD2 hS1
theorem cu_VL {own : String} {nL mL index n fr lo mc ms : Nat} {y : MethodName} {bytes : ByteArray} {b : Nat} {st : List Value} {wc wr ws : va_W} {post : Int64 → va_W → Prop} {ci : Nat} {T : u_T} {N : Nat} {fs : List Value}
    (As : List Value) (S : CallFix p m c cc nL s args cu_G own) (hM : cu_L l D TY y bytes mL fr lo mc ms (.ref b :: As) wc post) (hd : cu_hd y n)
    (k1 : Cond.code y bytes mL (some .long) ∈ cu_G) (k2 : Cond.methodLink own index y ∈ cu_G) (k3 : Cond.instanceMethod y ∈ cu_G) (k4 : Cond.selects y.cls y y ∈ cu_G) (k5 : Cond.initialized y.cls ∈ cu_G)
    (hR : fr + 1 ≤ R.frames ∧ 8 + (mL + 11) + lo ≤ R.locals) (hc : cells + mc ≤ R.cells ∧ slots + ms ≤ R.slots)
    (hP : va_P D vwCl ws H) (hD : va_D A ws) (hS : va_S A H0 H locs) (hA : ∀ q, H0.size ≤ q → A q) (hK : cu_K D TY s) (isC isR : List Nat) (hC : isC.map (fun i => ws[i]?) = wc.map some) (hRr : isR.map (fun i => ws[i]?) = wr.map some) (hnC : va_nd isC = true) (hnR : va_nd isR = true) (hdis : ∀ i ∈ isR, i ∉ isC)
    (q0 : Nat) (hb : wc[q0]? = some (b, .inr (ci, fs))) (hci : vwCl[ci]? = some (y.cls, T, N))
    (hn : As.length = n) (hsz : ls.size = nL) (hst : st = As.reverse ++ .ref b :: rest) (hrm : (rest.map fun v => v.category).sum ≤ 8) (hdg : decode cc pc = .ok (.invokevirtual index, 3))
    (kk : ∀ (r : Int64) (w : va_W) (H1 : Heap) (locs1 : List Loc), post r w → va_P D vwCl (wr ++ w) H1 → va_D A (wr ++ w) → va_S A H0 H1 locs1 → W p l e R s m args below meth c H1 locs1 (cells + mc) (slots + ms) Q (F0 m (pc + 3) ls (.long r :: rest))) : W p l e R s m args below meth c H locs cells slots Q (F0 m pc ls st) := by
  have hF := va_free (wc := wc) hD hS hA isC hC
  have hpv := cu_pv (av := .ref b :: As) hP hD hK hC hnC
  refine va_calll (va_runV (As := As) (rest := rest) S (hM H.size) ⟨cu_cb S hd k1 k2 k5 hR, S.2.2.2.2 _ k3, S.2.2.2.2 _ k4⟩ ⟨hpv.1, va_recv hK.1 (hP.sub (ws' := wc) isC (cu_fm hC)) hci hb, hpv.2⟩ rfl hn hsz hst (lv_room hrm) hdg hc) hS (fun q _ h => hF q h) hF (fun r w t H1 locs1 ht hvm hw hB hz1 hk1 hS1 => ?_)
  obtain ⟨hP1, hD1⟩ := hB
  rw [ht] at hP1
  obtain ⟨hP2, hD2⟩ := va_join (wr := wr) (w1 := w) hP hD isC isR hC hRr hnR hdis hk1 hF hP1 hD1
  exact kk r w H1 locs1 hw hP2 hD2 hS1
theorem cu_VV {own : String} {nL mL index n fr lo mc ms : Nat} {y : MethodName} {bytes : ByteArray} {b : Nat} {st : List Value} {wc wr ws : va_W} {post : va_W → Prop} {ci : Nat} {T : u_T} {N : Nat} {fs : List Value}
    (As : List Value) (S : CallFix p m c cc nL s args cu_G own) (hM : cu_V l D TY y bytes mL fr lo mc ms (.ref b :: As) wc post) (hd : cu_hd y n)
    (k1 : Cond.code y bytes mL none ∈ cu_G) (k2 : Cond.methodLink own index y ∈ cu_G) (k3 : Cond.instanceMethod y ∈ cu_G) (k4 : Cond.selects y.cls y y ∈ cu_G) (k5 : Cond.initialized y.cls ∈ cu_G)
    (hR : fr + 1 ≤ R.frames ∧ 8 + (mL + 11) + lo ≤ R.locals) (hc : cells + mc ≤ R.cells ∧ slots + ms ≤ R.slots)
    (hP : va_P D vwCl ws H) (hD : va_D A ws) (hS : va_S A H0 H locs) (hA : ∀ q, H0.size ≤ q → A q) (hK : cu_K D TY s) (isC isR : List Nat) (hC : isC.map (fun i => ws[i]?) = wc.map some) (hRr : isR.map (fun i => ws[i]?) = wr.map some) (hnC : va_nd isC = true) (hnR : va_nd isR = true) (hdis : ∀ i ∈ isR, i ∉ isC)
    (q0 : Nat) (hb : wc[q0]? = some (b, .inr (ci, fs))) (hci : vwCl[ci]? = some (y.cls, T, N))
    (hn : As.length = n) (hsz : ls.size = nL) (hst : st = As.reverse ++ .ref b :: rest) (hrm : (rest.map fun v => v.category).sum ≤ 8) (hdg : decode cc pc = .ok (.invokevirtual index, 3))
    (kk : ∀ (w : va_W) (H1 : Heap) (locs1 : List Loc), post w → va_P D vwCl (wr ++ w) H1 → va_D A (wr ++ w) → va_S A H0 H1 locs1 → W p l e R s m args below meth c H1 locs1 (cells + mc) (slots + ms) Q (F0 m (pc + 3) ls rest)) : W p l e R s m args below meth c H locs cells slots Q (F0 m pc ls st) := by
  have hF := va_free (wc := wc) hD hS hA isC hC
  have hpv := cu_pv (av := .ref b :: As) hP hD hK hC hnC
  refine va_callv (va_runV (As := As) (rest := rest) S (hM H.size) ⟨cu_cb S hd k1 k2 k5 hR, S.2.2.2.2 _ k3, S.2.2.2.2 _ k4⟩ ⟨hpv.1, va_recv hK.1 (hP.sub (ws' := wc) isC (cu_fm hC)) hci hb, hpv.2⟩ rfl hn hsz hst (lv_room hrm) hdg hc) hS (fun q _ h => hF q h) hF (fun w t H1 locs1 ht hvm hw hB hz1 hk1 hS1 => ?_)
  obtain ⟨hP1, hD1⟩ := hB
  rw [ht] at hP1
  obtain ⟨hP2, hD2⟩ := va_join (wr := wr) (w1 := w) hP hD isC isR hC hRr hnR hdis hk1 hF hP1 hD1
  exact kk w H1 locs1 hw hP2 hD2 hS1
theorem cu_SV {own : String} {nL mL index n fr lo mc ms : Nat} {y : MethodName} {bytes : ByteArray} {st : List Value} {wc wr ws : va_W} {post : va_W → Prop}
    (As : List Value) (S : CallFix p m c cc nL s args cu_G own) (hM : cu_V l D TY y bytes mL fr lo mc ms As wc post) (hd : cu_hd y n)
    (k1 : Cond.code y bytes mL none ∈ cu_G) (k2 : Cond.methodLink own index y ∈ cu_G) (k3 : Cond.static y ∈ cu_G) (k5 : Cond.initialized y.cls ∈ cu_G)
    (hR : fr + 1 ≤ R.frames ∧ 8 + (mL + 11) + lo ≤ R.locals) (hc : cells + mc ≤ R.cells ∧ slots + ms ≤ R.slots)
    (hP : va_P D vwCl ws H) (hD : va_D A ws) (hS : va_S A H0 H locs) (hA : ∀ q, H0.size ≤ q → A q) (hK : cu_K D TY s) (isC isR : List Nat) (hC : isC.map (fun i => ws[i]?) = wc.map some) (hRr : isR.map (fun i => ws[i]?) = wr.map some) (hnC : va_nd isC = true) (hnR : va_nd isR = true) (hdis : ∀ i ∈ isR, i ∉ isC)
    (hn : As.length = n) (hsz : ls.size = nL) (hst : st = As.reverse ++ rest) (hrm : (rest.map fun v => v.category).sum ≤ 8) (hdg : decode cc pc = .ok (.invokestatic index, 3))
    (kk : ∀ (w : va_W) (H1 : Heap) (locs1 : List Loc), post w → va_P D vwCl (wr ++ w) H1 → va_D A (wr ++ w) → va_S A H0 H1 locs1 → W p l e R s m args below meth c H1 locs1 (cells + mc) (slots + ms) Q (F0 m (pc + 3) ls rest)) : W p l e R s m args below meth c H locs cells slots Q (F0 m pc ls st) := by
  have hF := va_free (wc := wc) hD hS hA isC hC
  have hpv := cu_pv (av := As) hP hD hK hC hnC
  refine va_callv (va_runS (As := As) (rest := rest) S (hM H.size) ⟨cu_cb S hd k1 k2 k5 hR, S.2.2.2.2 _ k3⟩ ⟨hpv.1, hpv.2⟩ rfl hn hsz hst (lv_room hrm) hdg hc) hS (fun q _ h => hF q h) hF (fun w t H1 locs1 ht hvm hw hB hz1 hk1 hS1 => ?_)
  obtain ⟨hP1, hD1⟩ := hB
  rw [ht] at hP1
  obtain ⟨hP2, hD2⟩ := va_join (wr := wr) (w1 := w) hP hD isC isR hC hRr hnR hdis hk1 hF hP1 hD1
  exact kk w H1 locs1 hw hP2 hD2 hS1
theorem cu_SW {own : String} {nL mL index n fr lo mc ms : Nat} {y : MethodName} {bytes : ByteArray} {rt : FieldType} {st : List Value} {wc wr ws : va_W} {post : Int32 → va_W → Prop}
    (As : List Value) (S : CallFix p m c cc nL s args cu_G own) (hM : cu_W l D TY y bytes mL rt fr lo mc ms As wc post) (hd : cu_hd y n)
    (k1 : Cond.code y bytes mL (some rt) ∈ cu_G) (k2 : Cond.methodLink own index y ∈ cu_G) (k3 : Cond.static y ∈ cu_G) (k5 : Cond.initialized y.cls ∈ cu_G)
    (hR : fr + 1 ≤ R.frames ∧ 8 + (mL + 11) + lo ≤ R.locals) (hc : cells + mc ≤ R.cells ∧ slots + ms ≤ R.slots)
    (hP : va_P D vwCl ws H) (hD : va_D A ws) (hS : va_S A H0 H locs) (hA : ∀ q, H0.size ≤ q → A q) (hK : cu_K D TY s) (isC isR : List Nat) (hC : isC.map (fun i => ws[i]?) = wc.map some) (hRr : isR.map (fun i => ws[i]?) = wr.map some) (hnC : va_nd isC = true) (hnR : va_nd isR = true) (hdis : ∀ i ∈ isR, i ∉ isC)
    (hn : As.length = n) (hsz : ls.size = nL) (hst : st = As.reverse ++ rest) (hrm : (rest.map fun v => v.category).sum ≤ 8) (hdg : decode cc pc = .ok (.invokestatic index, 3))
    (kk : ∀ (r : Int32) (w : va_W) (H1 : Heap) (locs1 : List Loc), post r w → va_P D vwCl (wr ++ w) H1 → va_D A (wr ++ w) → va_S A H0 H1 locs1 → W p l e R s m args below meth c H1 locs1 (cells + mc) (slots + ms) Q (F0 m (pc + 3) ls (.int r :: rest))) : W p l e R s m args below meth c H locs cells slots Q (F0 m pc ls st) := by
  have hF := va_free (wc := wc) hD hS hA isC hC
  have hpv := cu_pv (av := As) hP hD hK hC hnC
  refine va_calli (va_runS (As := As) (rest := rest) S (hM H.size) ⟨cu_cb S hd k1 k2 k5 hR, S.2.2.2.2 _ k3⟩ ⟨hpv.1, hpv.2⟩ rfl hn hsz hst (lv_room hrm) hdg hc) hS (fun q _ h => hF q h) hF (fun r w t H1 locs1 ht hvm hw hB hz1 hk1 hS1 => ?_)
  obtain ⟨hP1, hD1⟩ := hB
  rw [ht] at hP1
  obtain ⟨hP2, hD2⟩ := va_join (wr := wr) (w1 := w) hP hD isC isR hC hRr hnR hdis hk1 hF hP1 hD1
  exact kk r w H1 locs1 hw hP2 hD2 hS1
theorem cu_VQ {own : String} {nL mL index n fr lo mc ms : Nat} {y : MethodName} {bytes : ByteArray} {rt : String} {b : Nat} {st : List Value} {wc wr ws : va_W} {post : Nat × va_W → Prop} {ci : Nat} {T : u_T} {N : Nat} {fs : List Value}
    (As : List Value) (S : CallFix p m c cc nL s args cu_G own) (hM : cu_Q l D TY y bytes mL rt fr lo mc ms (.ref b :: As) wc post) (hd : cu_hd y n)
    (k1 : Cond.code y bytes mL (some (.object rt)) ∈ cu_G) (k2 : Cond.methodLink own index y ∈ cu_G) (k3 : Cond.instanceMethod y ∈ cu_G) (k4 : Cond.selects y.cls y y ∈ cu_G) (k5 : Cond.initialized y.cls ∈ cu_G)
    (hR : fr + 1 ≤ R.frames ∧ 8 + (mL + 11) + lo ≤ R.locals) (hc : cells + mc ≤ R.cells ∧ slots + ms ≤ R.slots)
    (hP : va_P D vwCl ws H) (hD : va_D A ws) (hS : va_S A H0 H locs) (hA : ∀ q, H0.size ≤ q → A q) (hK : cu_K D TY s) (isC isR : List Nat) (hC : isC.map (fun i => ws[i]?) = wc.map some) (hRr : isR.map (fun i => ws[i]?) = wr.map some) (hnC : va_nd isC = true) (hnR : va_nd isR = true) (hdis : ∀ i ∈ isR, i ∉ isC)
    (q0 : Nat) (hb : wc[q0]? = some (b, .inr (ci, fs))) (hci : vwCl[ci]? = some (y.cls, T, N))
    (hn : As.length = n) (hsz : ls.size = nL) (hst : st = As.reverse ++ .ref b :: rest) (hrm : (rest.map fun v => v.category).sum ≤ 8) (hdg : decode cc pc = .ok (.invokevirtual index, 3))
    (kk : ∀ (r : Nat) (w : va_W) (H1 : Heap) (locs1 : List Loc), post (r, w) → va_P D vwCl (wr ++ w) H1 → va_D A (wr ++ w) → va_S A H0 H1 locs1 → W p l e R s m args below meth c H1 locs1 (cells + mc) (slots + ms) Q (F0 m (pc + 3) ls (.ref r :: rest))) : W p l e R s m args below meth c H locs cells slots Q (F0 m pc ls st) := by
  have hF := va_free (wc := wc) hD hS hA isC hC
  have hpv := cu_pv (av := .ref b :: As) hP hD hK hC hnC
  refine va_callr (va_runV (As := As) (rest := rest) S (hM H.size) ⟨cu_cb S hd k1 k2 k5 hR, S.2.2.2.2 _ k3, S.2.2.2.2 _ k4⟩ ⟨hpv.1, va_recv hK.1 (hP.sub (ws' := wc) isC (cu_fm hC)) hci hb, hpv.2⟩ rfl hn hsz hst (lv_room hrm) hdg hc) hS (fun q _ h => hF q h) hF (fun u ra t H1 locs1 ht hvm hw hB hz1 hk1 hS1 => ?_)
  obtain ⟨r, w⟩ := u
  obtain ⟨hra, hP1, hD1⟩ := hB
  dsimp only at hra hP1 hD1
  subst hra
  rw [ht] at hP1
  obtain ⟨hP2, hD2⟩ := va_join (wr := wr) (w1 := w) hP hD isC isR hC hRr hnR hdis hk1 hF hP1 hD1
  exact kk r w H1 locs1 hw hP2 hD2 hS1
/-- constructors: of a public class, and of a nest mate's private one -/
theorem cu_IV {own : String} {nL mL index n fr lo mc ms : Nat} {y : MethodName} {bytes : ByteArray} {b : Nat} {st : List Value} {wc wr ws : va_W} {post : va_W → Prop}
    (As : List Value) (S : CallFix p m c cc nL s args cu_G own) (hM : cu_V l D TY y bytes mL fr lo mc ms (.ref b :: As) wc post) (hd : cu_hd y n)
    (k1 : Cond.code y bytes mL none ∈ cu_G) (k2 : Cond.methodLink own index y ∈ cu_G) (k3 : Cond.instanceMethod y ∈ cu_G) (k5 : Cond.initialized y.cls ∈ cu_G) (hy : y.name = "<init>")
    (hR : fr + 1 ≤ R.frames ∧ 8 + (mL + 11) + lo ≤ R.locals) (hc : cells + mc ≤ R.cells ∧ slots + ms ≤ R.slots)
    (hP : va_P D vwCl ws H) (hD : va_D A ws) (hS : va_S A H0 H locs) (hA : ∀ q, H0.size ≤ q → A q) (hK : cu_K D TY s) (isC isR : List Nat) (hC : isC.map (fun i => ws[i]?) = wc.map some) (hRr : isR.map (fun i => ws[i]?) = wr.map some) (hnC : va_nd isC = true) (hnR : va_nd isR = true) (hdis : ∀ i ∈ isR, i ∉ isC)
    (hn : As.length = n) (hsz : ls.size = nL) (hst : st = As.reverse ++ .ref b :: rest) (hrm : (rest.map fun v => v.category).sum ≤ 8) (hdg : decode cc pc = .ok (.invokespecial index, 3))
    (kk : ∀ (w : va_W) (H1 : Heap) (locs1 : List Loc), post w → va_P D vwCl (wr ++ w) H1 → va_D A (wr ++ w) → va_S A H0 H1 locs1 → W p l e R s m args below meth c H1 locs1 (cells + mc) (slots + ms) Q (F0 m (pc + 3) ls rest)) : W p l e R s m args below meth c H locs cells slots Q (F0 m pc ls st) := by
  have hF := va_free (wc := wc) hD hS hA isC hC
  have hpv := cu_pv (av := .ref b :: As) hP hD hK hC hnC
  refine va_callv (va_runI (As := As) (rest := rest) S (hM H.size) ⟨cu_cb S hd k1 k2 k5 hR, hy, S.2.2.2.2 _ k3⟩ ⟨hpv.1, hpv.2⟩ rfl hn hsz hst (lv_room hrm) hdg hc) hS (fun q _ h => hF q h) hF (fun w t H1 locs1 ht hvm hw hB hz1 hk1 hS1 => ?_)
  obtain ⟨hP1, hD1⟩ := hB
  rw [ht] at hP1
  obtain ⟨hP2, hD2⟩ := va_join (wr := wr) (w1 := w) hP hD isC isR hC hRr hnR hdis hk1 hF hP1 hD1
  exact kk w H1 locs1 hw hP2 hD2 hS1
theorem cu_NV {own host : String} {nL mL index n fr lo mc ms : Nat} {y : MethodName} {bytes : ByteArray} {b : Nat} {st : List Value} {wc wr ws : va_W} {post : va_W → Prop}
    (As : List Value) (S : CallFix p m c cc nL s args cu_G own) (hM : cu_V l D TY y bytes mL fr lo mc ms (.ref b :: As) wc post) (hd : cu_hd y n)
    (k1 : Cond.code y bytes mL none ∈ cu_G) (k2 : va_Nw (.methodLinkNest own index y host) s) (k3 : Cond.instanceMethod y ∈ cu_G) (k5 : Cond.initialized y.cls ∈ cu_G) (hy : y.name = "<init>")
    (hR : fr + 1 ≤ R.frames ∧ 8 + (mL + 11) + lo ≤ R.locals) (hc : cells + mc ≤ R.cells ∧ slots + ms ≤ R.slots)
    (hP : va_P D vwCl ws H) (hD : va_D A ws) (hS : va_S A H0 H locs) (hA : ∀ q, H0.size ≤ q → A q) (hK : cu_K D TY s) (isC isR : List Nat) (hC : isC.map (fun i => ws[i]?) = wc.map some) (hRr : isR.map (fun i => ws[i]?) = wr.map some) (hnC : va_nd isC = true) (hnR : va_nd isR = true) (hdis : ∀ i ∈ isR, i ∉ isC)
    (hn : As.length = n) (hsz : ls.size = nL) (hst : st = As.reverse ++ .ref b :: rest) (hrm : (rest.map fun v => v.category).sum ≤ 8) (hdg : decode cc pc = .ok (.invokespecial index, 3))
    (kk : ∀ (w : va_W) (H1 : Heap) (locs1 : List Loc), post w → va_P D vwCl (wr ++ w) H1 → va_D A (wr ++ w) → va_S A H0 H1 locs1 → W p l e R s m args below meth c H1 locs1 (cells + mc) (slots + ms) Q (F0 m (pc + 3) ls rest)) : W p l e R s m args below meth c H locs cells slots Q (F0 m pc ls st) := by
  have hF := va_free (wc := wc) hD hS hA isC hC
  have hpv := cu_pv (av := .ref b :: As) hP hD hK hC hnC
  refine va_callv (va_runIN (As := As) (rest := rest) S (hM H.size) ⟨va_cnB n S.2.2.2.2 (cu_in k1) rfl rfl rfl k2 (S.2.2.2.2 _ k5) hd hR, hy, S.2.2.2.2 _ k3⟩ ⟨hpv.1, hpv.2⟩ rfl hn hsz hst (lv_room hrm) hdg hc) hS (fun q _ h => hF q h) hF (fun w t H1 locs1 ht hvm hw hB hz1 hk1 hS1 => ?_)
  obtain ⟨hP1, hD1⟩ := hB
  rw [ht] at hP1
  obtain ⟨hP2, hD2⟩ := va_join (wr := wr) (w1 := w) hP hD isC isR hC hRr hnR hdis hk1 hF hP1 hD1
  exact kk w H1 locs1 hw hP2 hD2 hS1
/-- new rows of ints and booleans, whose class is the one that the tables name -/
theorem cu_newI (N' : Nat) {cI cZ cQ : ClassId} {ws : va_W} (hexec : p.tables.exec = Jvm.exec) (hb : c.code = cc) (harr : (Cond.arrayClass .int).before args s = true) (hK : cu_K D (cu_TY cI cZ cQ) s) (hP : va_P D vwCl ws H) (hD : va_D A ws) (hS : va_S A H0 H locs) (hA : ∀ q, H0.size ≤ q → A q)
    {n : Int32} (hn : ¬ n < 0) (hN : n.toNatClampNeg = N') (hbytes : N' * 4 ≤ 536870912) (hcells : cells + 1 ≤ R.cells) (hslots : slots + N' ≤ R.slots) (hdg : decode cc pc = .ok (.newarray .int, 2))
    (kk : ∀ (q : Nat) (H1 : Heap), va_P D vwCl (ws ++ [(q, .inl (cI, N', .inl (fun _ => 0)))]) H1 → va_D A (ws ++ [(q, .inl (cI, N', .inl (fun _ => 0)))]) → va_S A H0 H1 locs → W p l e R s m args below meth c H1 locs (cells + 1) (slots + N') Q (F0 m (pc + 2) ls (.ref q :: rest))) : W p l e R s m args below meth c H locs cells slots Q (F0 m pc ls (.int n :: rest)) := by
  refine va_newa (atype := .int) (ty := .int) (N' := N') (a0 := (N', .inl (fun _ => 0))) hexec hb harr rfl hK.1 hP hD hS hA (fun cA => rfl) hn hN hbytes hcells hslots hdg (fun q cA H1 hK1 hP1 hD1 hS1 => ?_)
  have h1 := (hK.1.2 0 (cI, .int) rfl).2
  have h2 := (hK1.2 3 (cA, .int) rfl).2
  have h3 : cA = cI := Option.some.inj (h2.symm.trans h1)
  subst h3
  exact kk q H1 hP1 hD1 hS1
theorem cu_newZ (N' : Nat) {cI cZ cQ : ClassId} {ws : va_W} (hexec : p.tables.exec = Jvm.exec) (hb : c.code = cc) (harr : (Cond.arrayClass .boolean).before args s = true) (hK : cu_K D (cu_TY cI cZ cQ) s) (hP : va_P D vwCl ws H) (hD : va_D A ws) (hS : va_S A H0 H locs) (hA : ∀ q, H0.size ≤ q → A q)
    {n : Int32} (hn : ¬ n < 0) (hN : n.toNatClampNeg = N') (hbytes : N' * 1 ≤ 536870912) (hcells : cells + 1 ≤ R.cells) (hslots : slots + N' ≤ R.slots) (hdg : decode cc pc = .ok (.newarray .boolean, 2))
    (kk : ∀ (q : Nat) (H1 : Heap), va_P D vwCl (ws ++ [(q, .inl (cZ, N', .inl (fun _ => 0)))]) H1 → va_D A (ws ++ [(q, .inl (cZ, N', .inl (fun _ => 0)))]) → va_S A H0 H1 locs → W p l e R s m args below meth c H1 locs (cells + 1) (slots + N') Q (F0 m (pc + 2) ls (.ref q :: rest))) : W p l e R s m args below meth c H locs cells slots Q (F0 m pc ls (.int n :: rest)) := by
  refine va_newa (atype := .boolean) (ty := .boolean) (N' := N') (a0 := (N', .inl (fun _ => 0))) hexec hb harr rfl hK.1 hP hD hS hA (fun cA => rfl) hn hN hbytes hcells hslots hdg (fun q cA H1 hK1 hP1 hD1 hS1 => ?_)
  have h1 := (hK.1.2 1 (cZ, .boolean) rfl).2
  have h2 := (hK1.2 3 (cA, .boolean) rfl).2
  have h3 : cA = cZ := Option.some.inj (h2.symm.trans h1)
  subst h3
  exact kk q H1 hP1 hD1 hS1
theorem cu_newH (N' : Nat) {cI cZ cQ : ClassId} {own : String} {index : Nat} {ws : va_W} (hexec : p.tables.exec = Jvm.exec) (hb : c.code = cc) (hown : s.vm.findClass own = some m.cls) (hcl : (Cond.classLink own index "CommonUnits$Hoard").before args s = true) (hK : cu_K D (cu_TY cI cZ cQ) s) (hP : va_P D vwCl ws H) (hD : va_D A ws) (hS : va_S A H0 H locs) (hA : ∀ q, H0.size ≤ q → A q)
    {n : Int32} (hn : ¬ n < 0) (hN : n.toNatClampNeg = N') (hbytes : N' * 4 ≤ 536870912) (hcells : cells + 1 ≤ R.cells) (hslots : slots + N' ≤ R.slots) (hdg : decode cc pc = .ok (.anewarray index, 3))
    (kk : ∀ (q : Nat) (H1 : Heap), va_P D vwCl (ws ++ [(q, .inl (cQ, N', .inr (.inr (.inr (.inr (fun _ => none))))))]) H1 → va_D A (ws ++ [(q, .inl (cQ, N', .inr (.inr (.inr (.inr (fun _ => none))))))]) → va_S A H0 H1 locs → W p l e R s m args below meth c H1 locs (cells + 1) (slots + N') Q (F0 m (pc + 3) ls (.ref q :: rest))) : W p l e R s m args below meth c H locs cells slots Q (F0 m pc ls (.int n :: rest)) := by
  refine va_newq (C := "CommonUnits$Hoard") (N' := N') hexec hb hown hcl hK.2.1 hK.1 hP hD hS hA hn hN hbytes hcells hslots hdg (fun q cA H1 hK1 hP1 hD1 hS1 => ?_)
  obtain ⟨_, _, _, _, _, h1⟩ := (hK.1.2 2 (cQ, .object "CommonUnits$Hoard") rfl).2
  obtain ⟨_, _, _, _, _, h2⟩ := (hK1.2 3 (cA, .object "CommonUnits$Hoard") rfl).2
  have h3 : cA = cQ := Option.some.inj (h2.symm.trans h1)
  subst h3
  exact kk q H1 hP1 hD1 hS1
end CU
