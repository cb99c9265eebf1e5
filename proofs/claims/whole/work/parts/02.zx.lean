/-! ===== the layer zx: a method's body walked over the world's cells; contracts that return or throw ===== -/
/-- a word that holds of warmer tables too, whatever the arguments -/
def zx_good (w : Cond) : Prop := ∀ (s U : State), s.WarmedH U.vm → (∀ a : Array Value, w.before a s = true) → ∀ a : Array Value, w.before a U = true
def zx_gw : Cond → Bool
  | .fieldLinkNest _ _ _ _ _ _ => true
  | .methodLinkNest _ _ _ _ => true
  | .not (.castable _ _) => true
  | .stringRef _ _ _ => true
  | .castable _ _ => true
  | .declares _ => true
  | w => goodWord w
theorem zx_gw_ok {w : Cond} (h : zx_gw w = true) : zx_good w := by
  have plain : goodWord w = true → zx_good w := fun h s U hW hs a => word_at hW (good_of_word h) (hs #[])
  unfold zx_gw at h
  split at h
  · intro s U hW hs a
    exact va_Nw.use rfl (va_Nw.warmF hW (va_Nw.of rfl (hs #[])))
  · intro s U hW hs a
    exact va_Nw.use rfl (va_Nw.warmM hW (va_Nw.of rfl (hs #[])))
  · intro s U hW hs a
    obtain ⟨c1, c2, h1, h2, h3⟩ := va_Nc.moved hW.alike (va_Nc.of (hs #[]))
    simp [Cond.before, Cond.holds, Cond.value, h1, h2, h3]
  · intro s U hW hs a
    rename_i own k tx
    have h0 := hs #[]
    cases hc : s.vm.findClass own with
    | none => simp [Cond.before, Cond.holds, Cond.value, hc] at h0
    | some cur =>
      obtain ⟨k9, cf9, i9, a9, -, -, -, -, -, hev⟩ := Cond.stringRef_spec hc h0
      exact (vk_R.warm hW ⟨h0, hev⟩).1
  · intro s U hW hs a
    obtain ⟨c1, c2, h1, h2, h3⟩ := Cond.castable_spec (hs #[])
    have g1 := h1
    have g2 := h2
    rw [← hW.alike.findClass] at g1 g2
    have g3 := h3
    rw [← hW.alike.assignable] at g3
    simp [Cond.before, Cond.holds, Cond.value, g1, g2, g3]
  · intro s U hW hs a
    rename_i x9
    obtain ⟨r0, r, h1, h2, h3, h4⟩ := Cond.declares_spec (hs #[])
    have g1 : U.methodNamed? x9 = some r0 := by
      show (s.setVm U.vm).methodNamed? x9 = some r0
      rw [State.methodNamed?_setVm hW.alike]; exact h1
    have g2 : U.vm.method? r0 = some r := by rw [hW.alike.method?]; exact h2
    simp [Cond.before, Cond.holds, Cond.value, g1, g2, h3, h4]
  · exact plain h
/-- what nobody writes: the two statics of Throwable that a new exception reads -/
def zx_L (C n d : String) (U : State) : Prop := ∃ (c : ClassId) (k : Class) (i : Nat) (f : Field) (a : Nat) (cell : Cell), U.vm.findClass C = some c ∧ U.fieldFound? C n d = some (c, k, i, f) ∧ f.isStatic = true ∧ k.statics = some a ∧ U.heap[a]? = some cell ∧ cell.vm.isStatics = true ∧ cell.cls = c ∧ f.slot < cell.slots.size ∧ k.staticTypes[f.slot]? = some f.type
def zx_S1 (n d : String) (U : State) : Prop := va_Zq Bundle.tN n d (fun _ => False) U U.heap ∧ zx_L Bundle.tN n d U
def zx_S (U : State) : Prop := zx_S1 "UNASSIGNED_STACK" Bundle.steD U ∧ zx_S1 "SUPPRESSED_SENTINEL" Bundle.listD U
theorem zx_Lto {C n d : String} {s U : State} (hW : s.WarmedH U.vm) (hst : ∀ (a : Nat) (cell : Cell), s.heap[a]? = some cell → cell.vm.isStatics = true → U.heap[a]? = some cell) (h : zx_L C n d s) : zx_L C n d U := by
  obtain ⟨c, k, i, f, a, cell, h1, h2, h3, h4, h5, h6, h7, h8, h9⟩ := h
  obtain ⟨k', g1, g2⟩ := State.fieldFound?_setVm hW.alike h2
  exact ⟨c, k', i, f, a, cell, by rw [hW.alike.findClass]; exact h1, g1, h3, by rw [g2]; exact h4, hst a cell h5 h6, h6, h7, h8, by rw [g2]; exact h9⟩
theorem zx_Zto {C n d : String} {v : Value} {s U : State} (hW : s.WarmedH U.vm) (hst : ∀ (a : Nat) (cell : Cell), s.heap[a]? = some cell → cell.vm.isStatics = true → U.heap[a]? = some cell) (h : va_Z C n d v (fun _ => False) s s.heap) : va_Z C n d v (fun _ => False) U U.heap := by
  obtain ⟨cf, kf, fi, f, a, cell, h1, h2, h3, h4, h5, h6, h7, h8⟩ := va_Z.moved hW.alike h
  exact ⟨cf, kf, fi, f, a, cell, h1, h2, h3, h4, hst a cell h5 h6, h6, h7, h8⟩
theorem zx_Zqto {C n d : String} {s U : State} (hW : s.WarmedH U.vm) (hst : ∀ (a : Nat) (cell : Cell), s.heap[a]? = some cell → cell.vm.isStatics = true → U.heap[a]? = some cell) (h : va_Zq C n d (fun _ => False) s s.heap) : va_Zq C n d (fun _ => False) U U.heap := by
  rcases h with h | ⟨t, h⟩
  · exact Or.inl (zx_Zto hW hst h)
  · exact Or.inr ⟨t, zx_Zto hW hst h⟩
/-- what holds of the machine at every call: the words B, the classes' numbers, the statics -/
def zx_G (B : List Cond) (D : va_G) (cl : List vw_C) (tys : List (ClassId × FieldType)) (U : State) : Prop := (∀ w ∈ B, ∀ a : Array Value, w.before a U = true) ∧ va_K D cl tys U ∧ zx_S U
theorem zx_G.to {B : List Cond} {D : va_G} {cl : List vw_C} {tys : List (ClassId × FieldType)} {s U : State} (hB : ∀ w ∈ B, zx_good w) (hW : s.WarmedH U.vm) (hst : ∀ (a : Nat) (cell : Cell), s.heap[a]? = some cell → cell.vm.isStatics = true → U.heap[a]? = some cell) (h : zx_G B D cl tys s) : zx_G B D cl tys U :=
  ⟨fun w hw a => hB w hw s U hW (h.1 w hw) a, va_K.moved hW.alike h.2.1, ⟨zx_Zqto hW hst h.2.2.1.1, zx_Lto hW hst h.2.2.1.2⟩, zx_Zqto hW hst h.2.2.2.1, zx_Lto hW hst h.2.2.2.2⟩
theorem zx_weaken {tb : Tables} {e : Env} {mid below : List Frame} {a b : State} (h : Steps tb e (mid ++ below) a b) : Steps tb e below a b := by
  obtain ⟨n, hn, w⟩ := h
  exact ⟨n, hn, fun k hk => (w k hk).weaken⟩
/-- no statics cell is a cell of the world -/
theorem zx_notA {D : va_G} {cl : List vw_C} {ws : va_W} {H : Heap} (hP : va_P D cl ws H) {a : Nat} {cell : Cell} (h : H[a]? = some cell) (hs : cell.vm.isStatics = true) : ¬ va_A ws H.size a := by
  intro hA
  rcases hA with ⟨k, e, hk⟩ | hA
  · have h1 := hP k (a, e) hk
    cases e with
    | inl x =>
      have h2 : H[a]? = some (vp_cell x.1 x.2) := h1
      rw [h] at h2
      have h3 : cell = vp_cell x.1 x.2 := Option.some.inj h2
      rw [h3] at hs
      obtain ⟨cA, n, f⟩ := x
      rcases f with f | f | f | f | f <;> exact absurd hs (by simp [vp_cell, arrV, VmData.isStatics])
    | inr o =>
      obtain ⟨r, -, cell2, h2, -, h3, -⟩ := h1
      have h4 : cell2 = cell := Option.some.inj (h2.symm.trans h)
      rw [h4] at h3
      rw [h3] at hs
      exact absurd hs (by simp [VmData.isStatics])
  · have := (Array.getElem?_eq_some_iff.mp h).1
    omega
section ZX
variable {p : Program} {l : Launch} {e : Env} {R : Room} {s : State} {m : MethodId} {args : Array Value} {below : List Frame} {meth : Method} {c : Code} {Q : State → Prop}
variable {cc : ByteArray} {nL : Nat} {own : String} {B : List Cond} {D : va_G} {cl : List vw_C} {tys : List (ClassId × FieldType)} {A : Nat → Prop}
variable {lv lv' : List (Nat × Value)} {ws ws' : va_W} {kc ks pc : Nat} {st : List Value}
/-- what stays while a body is walked -/
def zx_C (p : Program) (s : State) (m : MethodId) (args : Array Value) (c : Code) (cc : ByteArray) (nL : Nat) (own : String) (B : List Cond) (D : va_G) (cl : List vw_C) (tys : List (ClassId × FieldType)) (A : Nat → Prop) : Prop :=
  p.tables.exec = Jvm.exec ∧ c.code = cc ∧ c.maxLocals = nL ∧ s.vm.findClass own = some m.cls ∧ zx_G B D cl tys s ∧ (∀ w ∈ B, zx_good w) ∧ (∀ q, s.heap.size ≤ q → A q) ∧ ∀ (a : Nat) (cell : Cell), s.heap[a]? = some cell → cell.vm.isStatics = true → ¬ A a
theorem zx_C.hx (C : zx_C p s m args c cc nL own B D cl tys A) : p.tables.exec = Jvm.exec := C.1
theorem zx_C.hb (C : zx_C p s m args c cc nL own B D cl tys A) : c.code = cc := C.2.1
theorem zx_C.hml (C : zx_C p s m args c cc nL own B D cl tys A) : c.maxLocals = nL := C.2.2.1
theorem zx_C.ho (C : zx_C p s m args c cc nL own B D cl tys A) : s.vm.findClass own = some m.cls := C.2.2.2.1
theorem zx_C.g (C : zx_C p s m args c cc nL own B D cl tys A) : zx_G B D cl tys s := C.2.2.2.2.1
theorem zx_C.hB (C : zx_C p s m args c cc nL own B D cl tys A) : ∀ w ∈ B, zx_good w := C.2.2.2.2.2.1
theorem zx_C.hA (C : zx_C p s m args c cc nL own B D cl tys A) : ∀ q, s.heap.size ≤ q → A q := C.2.2.2.2.2.2.1
theorem zx_C.hN (C : zx_C p s m args c cc nL own B D cl tys A) : ∀ (a : Nat) (cell : Cell), s.heap[a]? = some cell → cell.vm.isStatics = true → ¬ A a := C.2.2.2.2.2.2.2
theorem zx_C.w (C : zx_C p s m args c cc nL own B D cl tys A) {w : Cond} (h : w ∈ B) : w.before args s = true := C.g.1 w h args
theorem zx_C.ts (C : zx_C p s m args c cc nL own B D cl tys A) : ∀ w ∈ B, w.before args s = true := fun w h => C.g.1 w h args
theorem zx_C.k (C : zx_C p s m args c cc nL own B D cl tys A) : va_K D cl tys s := C.g.2.1
/-- the machine stands at pc, with these locals, these cells of the world, this operand stack: it comes to Q -/
def zx_At (p : Program) (l : Launch) (e : Env) (R : Room) (s : State) (m : MethodId) (args : Array Value) (below : List Frame) (meth : Method) (c : Code) (Q : State → Prop) (D : va_G) (cl : List vw_C) (A : Nat → Prop) (nL : Nat) (lv : List (Nat × Value)) (ws : va_W) (kc ks pc : Nat) (st : List Value) : Prop :=
  ∀ (H : Heap) (locs : List Loc) (ls : Array Slot), lv_has ls nL lv → va_P D cl ws H → va_D A ws → va_S A s.heap H locs → W p l e R s m args below meth c H locs kc ks Q (F0 m pc ls st)
/-- an exception is on its way at pc -/
def zx_Th (p : Program) (l : Launch) (e : Env) (R : Room) (s : State) (m : MethodId) (args : Array Value) (below : List Frame) (meth : Method) (c : Code) (Q : State → Prop) (D : va_G) (cl : List vw_C) (A : Nat → Prop) (nL : Nat) (lv : List (Nat × Value)) (ws : va_W) (kc ks pc : Nat) (st : List Value) (x : Nat) : Prop :=
  ∀ (H : Heap) (locs : List Loc) (ls : Array Slot), lv_has ls nL lv → va_P D cl ws H → va_D A ws → va_S A s.heap H locs → ∀ T : State, T.heap = H → Stand p l e R s m args below meth c T locs kc ks → ∃ t, Steps p.tables e below ((T.setTop (F0 m pc ls st)).pushFrame (.throwing x)) t ∧ Q t
/-- fewer locals, in another order -/
theorem zx_lv (js : List Nat) (hl : lv_pick lv js = lv') (h : zx_At p l e R s m args below meth c Q D cl A nL lv' ws kc ks pc st) : zx_At p l e R s m args below meth c Q D cl A nL lv ws kc ks pc st := fun H locs ls hl0 hP hD hS => h H locs ls (lv_sub hl0 js hl) hP hD hS
/-- fewer cells, in another order -/
theorem zx_ws (is : List Nat) (hn : va_nd is = true) (hs : is.map (fun i => ws[i]?) = ws'.map some) (h : zx_At p l e R s m args below meth c Q D cl A nL lv ws' kc ks pc st) : zx_At p l e R s m args below meth c Q D cl A nL lv ws kc ks pc st := fun H locs ls hl hP hD hS => h H locs ls hl (hP.sub is (by
    have h1 : is.filterMap (fun i => ws[i]?) = (is.map (fun i => ws[i]?)).filterMap id := by rw [List.filterMap_map]; rfl
    rw [h1, hs, List.filterMap_map]
    exact List.filterMap_some)) (hD.sub is hn hs) hS
theorem zx_wide {kc2 ks2 : Nat} (h1 : kc ≤ kc2) (h2 : ks ≤ ks2) (h : zx_At p l e R s m args below meth c Q D cl A nL lv ws kc2 ks2 pc st) : zx_At p l e R s m args below meth c Q D cl A nL lv ws kc ks pc st := fun H locs ls hl hP hD hS => W.widen h1 h2 (h H locs ls hl hP hD hS)
theorem zx_topi {x : Int32} (h : ∀ y : Int32, y = x → zx_At p l e R s m args below meth c Q D cl A nL lv ws kc ks pc (.int y :: st)) : zx_At p l e R s m args below meth c Q D cl A nL lv ws kc ks pc (.int x :: st) := h x rfl
theorem zx_topl {x : Int64} (h : ∀ y : Int64, y = x → zx_At p l e R s m args below meth c Q D cl A nL lv ws kc ks pc (.long y :: st)) : zx_At p l e R s m args below meth c Q D cl A nL lv ws kc ks pc (.long x :: st) := h x rfl
/-- the number on the stack by another name -/
theorem zx_seti {x : Int32} (y : Int32) (e9 : x = y) (h : zx_At p l e R s m args below meth c Q D cl A nL lv ws kc ks pc (.int y :: st)) : zx_At p l e R s m args below meth c Q D cl A nL lv ws kc ks pc (.int x :: st) := e9 ▸ h
theorem zx_setl {x : Int64} (y : Int64) (e9 : x = y) (h : zx_At p l e R s m args below meth c Q D cl A nL lv ws kc ks pc (.long y :: st)) : zx_At p l e R s m args below meth c Q D cl A nL lv ws kc ks pc (.long x :: st) := e9 ▸ h
theorem zx_iconst (C : zx_C p s m args c cc nL own B D cl tys A) {z : Int} {v : Int32} (hd : decode cc pc = .ok (.iconst z, 1)) (hv : Int32.ofInt z = v) (h : zx_At p l e R s m args below meth c Q D cl A nL lv ws kc ks (pc + 1) (.int v :: st)) : zx_At p l e R s m args below meth c Q D cl A nL lv ws kc ks pc st := fun H locs ls hl hP hD hS => lv_iconst C.hx C.hb hd hv (h H locs ls hl hP hD hS)
theorem zx_bipush (C : zx_C p s m args c cc nL own B D cl tys A) {z : Int} {v : Int32} (hd : decode cc pc = .ok (.bipush z, 2)) (hv : (Int8.ofInt z).toInt32 = v) (h : zx_At p l e R s m args below meth c Q D cl A nL lv ws kc ks (pc + 2) (.int v :: st)) : zx_At p l e R s m args below meth c Q D cl A nL lv ws kc ks pc st := fun H locs ls hl hP hD hS => lv_bipush C.hx C.hb hd hv (h H locs ls hl hP hD hS)
theorem zx_sipush (C : zx_C p s m args c cc nL own B D cl tys A) {z : Int} {v : Int32} (hd : decode cc pc = .ok (.sipush z, 3)) (hv : (Int16.ofInt z).toInt32 = v) (h : zx_At p l e R s m args below meth c Q D cl A nL lv ws kc ks (pc + 3) (.int v :: st)) : zx_At p l e R s m args below meth c Q D cl A nL lv ws kc ks pc st := fun H locs ls hl hP hD hS => lv_sipush C.hx C.hb hd hv (h H locs ls hl hP hD hS)
theorem zx_lconst (C : zx_C p s m args c cc nL own B D cl tys A) {z : Fin 2} {v : Int64} (hd : decode cc pc = .ok (.lconst z, 1)) (hv : Int64.ofNat (z : Nat) = v) (h : zx_At p l e R s m args below meth c Q D cl A nL lv ws kc ks (pc + 1) (.long v :: st)) : zx_At p l e R s m args below meth c Q D cl A nL lv ws kc ks pc st := fun H locs ls hl hP hD hS => lv_lconst C.hx C.hb hd hv (h H locs ls hl hP hD hS)
theorem zx_ldc (C : zx_C p s m args c cc nL own B D cl tys A) {ix : Nat} {v : Int32} (hc : Cond.constant own ix v ∈ B) (hd : decode cc pc = .ok (.ldc ix, 2)) (h : zx_At p l e R s m args below meth c Q D cl A nL lv ws kc ks (pc + 2) (.int v :: st)) : zx_At p l e R s m args below meth c Q D cl A nL lv ws kc ks pc st := fun H locs ls hl hP hD hS => lv_ldc C.hx C.hb C.ho (C.w hc) hd (h H locs ls hl hP hD hS)
theorem zx_ldc2 (C : zx_C p s m args c cc nL own B D cl tys A) {ix : Nat} {v : Int64} (hc : Cond.constantLong own ix v ∈ B) (hd : decode cc pc = .ok (.ldc2_w ix, 3)) (h : zx_At p l e R s m args below meth c Q D cl A nL lv ws kc ks (pc + 3) (.long v :: st)) : zx_At p l e R s m args below meth c Q D cl A nL lv ws kc ks pc st := fun H locs ls hl hP hD hS => lv_ldc2 C.hx C.hb C.ho (C.w hc) hd (h H locs ls hl hP hD hS)
theorem zx_iload_n (C : zx_C p s m args c cc nL own B D cl tys A) {f : Fin 4} {i : Nat} {x : Int32} (hd : decode cc pc = .ok (.iload_n f, 1)) (hi : (f : Nat) = i) (j : Nat) (hj : lv[j]? = some (i, .int x)) (h : zx_At p l e R s m args below meth c Q D cl A nL lv ws kc ks (pc + 1) (.int x :: st)) : zx_At p l e R s m args below meth c Q D cl A nL lv ws kc ks pc st := fun H locs ls hl hP hD hS => lv_iload_n C.hx C.hb hd hi (lv_at hl j hj) (h H locs ls hl hP hD hS)
theorem zx_iload (C : zx_C p s m args c cc nL own B D cl tys A) {i : Nat} {x : Int32} (hd : decode cc pc = .ok (.iload i, 2)) (j : Nat) (hj : lv[j]? = some (i, .int x)) (h : zx_At p l e R s m args below meth c Q D cl A nL lv ws kc ks (pc + 2) (.int x :: st)) : zx_At p l e R s m args below meth c Q D cl A nL lv ws kc ks pc st := fun H locs ls hl hP hD hS => lv_iload C.hx C.hb hd (lv_at hl j hj) (h H locs ls hl hP hD hS)
theorem zx_istore_n (C : zx_C p s m args c cc nL own B D cl tys A) {f : Fin 4} {i : Nat} {x : Int32} (hd : decode cc pc = .ok (.istore_n f, 1)) (hi : (f : Nat) = i) (hn : i < nL) (hl2 : (i, Value.int x) :: lv.filter (fun q => !(q.1 == i) && !(q.1 + 1 == i && q.2.category == 2)) = lv') (h : zx_At p l e R s m args below meth c Q D cl A nL lv' ws kc ks (pc + 1) st) : zx_At p l e R s m args below meth c Q D cl A nL lv ws kc ks pc (.int x :: st) := fun H locs ls hl hP hD hS => lv_istore_n C.hx C.hb hd hi hl hn hl2 (fun ls' hl' => h H locs ls' hl' hP hD hS)
theorem zx_istore (C : zx_C p s m args c cc nL own B D cl tys A) {i : Nat} {x : Int32} (hd : decode cc pc = .ok (.istore i, 2)) (hn : i < nL) (hl2 : (i, Value.int x) :: lv.filter (fun q => !(q.1 == i) && !(q.1 + 1 == i && q.2.category == 2)) = lv') (h : zx_At p l e R s m args below meth c Q D cl A nL lv' ws kc ks (pc + 2) st) : zx_At p l e R s m args below meth c Q D cl A nL lv ws kc ks pc (.int x :: st) := fun H locs ls hl hP hD hS => lv_istore C.hx C.hb hd hl hn hl2 (fun ls' hl' => h H locs ls' hl' hP hD hS)
theorem zx_lload_n (C : zx_C p s m args c cc nL own B D cl tys A) {f : Fin 4} {i : Nat} {x : Int64} (hd : decode cc pc = .ok (.lload_n f, 1)) (hi : (f : Nat) = i) (j : Nat) (hj : lv[j]? = some (i, .long x)) (h : zx_At p l e R s m args below meth c Q D cl A nL lv ws kc ks (pc + 1) (.long x :: st)) : zx_At p l e R s m args below meth c Q D cl A nL lv ws kc ks pc st := fun H locs ls hl hP hD hS => lv_lload_n C.hx C.hb hd hi (lv_at hl j hj) (h H locs ls hl hP hD hS)
theorem zx_lload (C : zx_C p s m args c cc nL own B D cl tys A) {i : Nat} {x : Int64} (hd : decode cc pc = .ok (.lload i, 2)) (j : Nat) (hj : lv[j]? = some (i, .long x)) (h : zx_At p l e R s m args below meth c Q D cl A nL lv ws kc ks (pc + 2) (.long x :: st)) : zx_At p l e R s m args below meth c Q D cl A nL lv ws kc ks pc st := fun H locs ls hl hP hD hS => lv_lload C.hx C.hb hd (lv_at hl j hj) (h H locs ls hl hP hD hS)
theorem zx_lstore_n (C : zx_C p s m args c cc nL own B D cl tys A) {f : Fin 4} {i : Nat} {x : Int64} (hd : decode cc pc = .ok (.lstore_n f, 1)) (hi : (f : Nat) = i) (hn : i + 1 < nL) (hl2 : (i, Value.long x) :: lv.filter (fun q => !(q.1 == i) && (!(q.1 == i + 1) && !(q.1 + 1 == i && q.2.category == 2))) = lv') (h : zx_At p l e R s m args below meth c Q D cl A nL lv' ws kc ks (pc + 1) st) : zx_At p l e R s m args below meth c Q D cl A nL lv ws kc ks pc (.long x :: st) := fun H locs ls hl hP hD hS => lv_lstore_n C.hx C.hb hd hi hl hn hl2 (fun ls' hl' => h H locs ls' hl' hP hD hS)
theorem zx_lstore (C : zx_C p s m args c cc nL own B D cl tys A) {i : Nat} {x : Int64} (hd : decode cc pc = .ok (.lstore i, 2)) (hn : i + 1 < nL) (hl2 : (i, Value.long x) :: lv.filter (fun q => !(q.1 == i) && (!(q.1 == i + 1) && !(q.1 + 1 == i && q.2.category == 2))) = lv') (h : zx_At p l e R s m args below meth c Q D cl A nL lv' ws kc ks (pc + 2) st) : zx_At p l e R s m args below meth c Q D cl A nL lv ws kc ks pc (.long x :: st) := fun H locs ls hl hP hD hS => lv_lstore C.hx C.hb hd hl hn hl2 (fun ls' hl' => h H locs ls' hl' hP hD hS)
theorem zx_aload_n (C : zx_C p s m args c cc nL own B D cl tys A) {f : Fin 4} {i : Nat} {x : Nat} (hd : decode cc pc = .ok (.aload_n f, 1)) (hi : (f : Nat) = i) (j : Nat) (hj : lv[j]? = some (i, .ref x)) (h : zx_At p l e R s m args below meth c Q D cl A nL lv ws kc ks (pc + 1) (.ref x :: st)) : zx_At p l e R s m args below meth c Q D cl A nL lv ws kc ks pc st := fun H locs ls hl hP hD hS => lv_aload_n C.hx C.hb hd hi (lv_at hl j hj) (h H locs ls hl hP hD hS)
theorem zx_aload (C : zx_C p s m args c cc nL own B D cl tys A) {i : Nat} {x : Nat} (hd : decode cc pc = .ok (.aload i, 2)) (j : Nat) (hj : lv[j]? = some (i, .ref x)) (h : zx_At p l e R s m args below meth c Q D cl A nL lv ws kc ks (pc + 2) (.ref x :: st)) : zx_At p l e R s m args below meth c Q D cl A nL lv ws kc ks pc st := fun H locs ls hl hP hD hS => lv_aload C.hx C.hb hd (lv_at hl j hj) (h H locs ls hl hP hD hS)
theorem zx_astore_n (C : zx_C p s m args c cc nL own B D cl tys A) {f : Fin 4} {i : Nat} {x : Nat} (hd : decode cc pc = .ok (.astore_n f, 1)) (hi : (f : Nat) = i) (hn : i < nL) (hl2 : (i, Value.ref x) :: lv.filter (fun q => !(q.1 == i) && !(q.1 + 1 == i && q.2.category == 2)) = lv') (h : zx_At p l e R s m args below meth c Q D cl A nL lv' ws kc ks (pc + 1) st) : zx_At p l e R s m args below meth c Q D cl A nL lv ws kc ks pc (.ref x :: st) := fun H locs ls hl hP hD hS => lv_astore_n C.hx C.hb hd hi hl hn hl2 (fun ls' hl' => h H locs ls' hl' hP hD hS)
theorem zx_astore (C : zx_C p s m args c cc nL own B D cl tys A) {i : Nat} {x : Nat} (hd : decode cc pc = .ok (.astore i, 2)) (hn : i < nL) (hl2 : (i, Value.ref x) :: lv.filter (fun q => !(q.1 == i) && !(q.1 + 1 == i && q.2.category == 2)) = lv') (h : zx_At p l e R s m args below meth c Q D cl A nL lv' ws kc ks (pc + 2) st) : zx_At p l e R s m args below meth c Q D cl A nL lv ws kc ks pc (.ref x :: st) := fun H locs ls hl hP hD hS => lv_astore C.hx C.hb hd hl hn hl2 (fun ls' hl' => h H locs ls' hl' hP hD hS)
theorem zx_iinc (C : zx_C p s m args c cc nL own B D cl tys A) {i : Nat} {z : Int} {x v : Int32} (hd : decode cc pc = .ok (.iinc i z, 3)) (j : Nat) (hj : lv[j]? = some (i, .int x)) (hv : x + Int32.ofInt z = v) (hn : i < nL) (hl2 : (i, Value.int v) :: lv.filter (fun q => !(q.1 == i) && !(q.1 + 1 == i && q.2.category == 2)) = lv') (h : zx_At p l e R s m args below meth c Q D cl A nL lv' ws kc ks (pc + 3) st) : zx_At p l e R s m args below meth c Q D cl A nL lv ws kc ks pc st := fun H locs ls hl hP hD hS => lv_iinc C.hx C.hb hd hl hj hv hn hl2 (fun ls' hl' => h H locs ls' hl' hP hD hS)
theorem zx_iadd (C : zx_C p s m args c cc nL own B D cl tys A) {x y : Int32} (hd : decode cc pc = .ok (.iadd, 1)) (h : zx_At p l e R s m args below meth c Q D cl A nL lv ws kc ks (pc + 1) (.int (x + y) :: st)) : zx_At p l e R s m args below meth c Q D cl A nL lv ws kc ks pc (.int y :: .int x :: st) := fun H locs ls hl hP hD hS => lv_iadd C.hx C.hb hd  (h H locs ls hl hP hD hS)
theorem zx_isub (C : zx_C p s m args c cc nL own B D cl tys A) {x y : Int32} (hd : decode cc pc = .ok (.isub, 1)) (h : zx_At p l e R s m args below meth c Q D cl A nL lv ws kc ks (pc + 1) (.int (x - y) :: st)) : zx_At p l e R s m args below meth c Q D cl A nL lv ws kc ks pc (.int y :: .int x :: st) := fun H locs ls hl hP hD hS => lv_isub C.hx C.hb hd  (h H locs ls hl hP hD hS)
theorem zx_imul (C : zx_C p s m args c cc nL own B D cl tys A) {x y : Int32} (hd : decode cc pc = .ok (.imul, 1)) (h : zx_At p l e R s m args below meth c Q D cl A nL lv ws kc ks (pc + 1) (.int (x * y) :: st)) : zx_At p l e R s m args below meth c Q D cl A nL lv ws kc ks pc (.int y :: .int x :: st) := fun H locs ls hl hP hD hS => lv_imul C.hx C.hb hd  (h H locs ls hl hP hD hS)
theorem zx_iand (C : zx_C p s m args c cc nL own B D cl tys A) {x y : Int32} (hd : decode cc pc = .ok (.iand, 1)) (h : zx_At p l e R s m args below meth c Q D cl A nL lv ws kc ks (pc + 1) (.int (x &&& y) :: st)) : zx_At p l e R s m args below meth c Q D cl A nL lv ws kc ks pc (.int y :: .int x :: st) := fun H locs ls hl hP hD hS => lv_iand C.hx C.hb hd  (h H locs ls hl hP hD hS)
theorem zx_ior (C : zx_C p s m args c cc nL own B D cl tys A) {x y : Int32} (hd : decode cc pc = .ok (.ior, 1)) (h : zx_At p l e R s m args below meth c Q D cl A nL lv ws kc ks (pc + 1) (.int (x ||| y) :: st)) : zx_At p l e R s m args below meth c Q D cl A nL lv ws kc ks pc (.int y :: .int x :: st) := fun H locs ls hl hP hD hS => lv_ior C.hx C.hb hd  (h H locs ls hl hP hD hS)
theorem zx_ixor (C : zx_C p s m args c cc nL own B D cl tys A) {x y : Int32} (hd : decode cc pc = .ok (.ixor, 1)) (h : zx_At p l e R s m args below meth c Q D cl A nL lv ws kc ks (pc + 1) (.int (x ^^^ y) :: st)) : zx_At p l e R s m args below meth c Q D cl A nL lv ws kc ks pc (.int y :: .int x :: st) := fun H locs ls hl hP hD hS => lv_ixor C.hx C.hb hd  (h H locs ls hl hP hD hS)
theorem zx_ishl (C : zx_C p s m args c cc nL own B D cl tys A) {x y : Int32} (hd : decode cc pc = .ok (.ishl, 1)) (h : zx_At p l e R s m args below meth c Q D cl A nL lv ws kc ks (pc + 1) (.int (x <<< (y &&& 31)) :: st)) : zx_At p l e R s m args below meth c Q D cl A nL lv ws kc ks pc (.int y :: .int x :: st) := fun H locs ls hl hP hD hS => lv_ishl C.hx C.hb hd  (h H locs ls hl hP hD hS)
theorem zx_ishr (C : zx_C p s m args c cc nL own B D cl tys A) {x y : Int32} (hd : decode cc pc = .ok (.ishr, 1)) (h : zx_At p l e R s m args below meth c Q D cl A nL lv ws kc ks (pc + 1) (.int (x >>> (y &&& 31)) :: st)) : zx_At p l e R s m args below meth c Q D cl A nL lv ws kc ks pc (.int y :: .int x :: st) := fun H locs ls hl hP hD hS => lv_ishr C.hx C.hb hd  (h H locs ls hl hP hD hS)
theorem zx_irem (C : zx_C p s m args c cc nL own B D cl tys A) {x y : Int32} (hd : decode cc pc = .ok (.irem, 1)) (hne : ¬ y = 0) (h : zx_At p l e R s m args below meth c Q D cl A nL lv ws kc ks (pc + 1) (.int (x - x / y * y) :: st)) : zx_At p l e R s m args below meth c Q D cl A nL lv ws kc ks pc (.int y :: .int x :: st) := fun H locs ls hl hP hD hS => lv_irem C.hx C.hb hd hne (h H locs ls hl hP hD hS)
theorem zx_ineg (C : zx_C p s m args c cc nL own B D cl tys A) {x : Int32} (hd : decode cc pc = .ok (.ineg, 1)) (h : zx_At p l e R s m args below meth c Q D cl A nL lv ws kc ks (pc + 1) (.int (-x) :: st)) : zx_At p l e R s m args below meth c Q D cl A nL lv ws kc ks pc (.int x :: st) := fun H locs ls hl hP hD hS => lv_ineg C.hx C.hb hd  (h H locs ls hl hP hD hS)
theorem zx_ladd (C : zx_C p s m args c cc nL own B D cl tys A) {x y : Int64} (hd : decode cc pc = .ok (.ladd, 1)) (h : zx_At p l e R s m args below meth c Q D cl A nL lv ws kc ks (pc + 1) (.long (x + y) :: st)) : zx_At p l e R s m args below meth c Q D cl A nL lv ws kc ks pc (.long y :: .long x :: st) := fun H locs ls hl hP hD hS => lv_ladd C.hx C.hb hd  (h H locs ls hl hP hD hS)
theorem zx_lsub (C : zx_C p s m args c cc nL own B D cl tys A) {x y : Int64} (hd : decode cc pc = .ok (.lsub, 1)) (h : zx_At p l e R s m args below meth c Q D cl A nL lv ws kc ks (pc + 1) (.long (x - y) :: st)) : zx_At p l e R s m args below meth c Q D cl A nL lv ws kc ks pc (.long y :: .long x :: st) := fun H locs ls hl hP hD hS => lv_lsub C.hx C.hb hd  (h H locs ls hl hP hD hS)
theorem zx_lmul (C : zx_C p s m args c cc nL own B D cl tys A) {x y : Int64} (hd : decode cc pc = .ok (.lmul, 1)) (h : zx_At p l e R s m args below meth c Q D cl A nL lv ws kc ks (pc + 1) (.long (x * y) :: st)) : zx_At p l e R s m args below meth c Q D cl A nL lv ws kc ks pc (.long y :: .long x :: st) := fun H locs ls hl hP hD hS => lv_lmul C.hx C.hb hd  (h H locs ls hl hP hD hS)
theorem zx_land (C : zx_C p s m args c cc nL own B D cl tys A) {x y : Int64} (hd : decode cc pc = .ok (.land, 1)) (h : zx_At p l e R s m args below meth c Q D cl A nL lv ws kc ks (pc + 1) (.long (x &&& y) :: st)) : zx_At p l e R s m args below meth c Q D cl A nL lv ws kc ks pc (.long y :: .long x :: st) := fun H locs ls hl hP hD hS => lv_land C.hx C.hb hd  (h H locs ls hl hP hD hS)
theorem zx_lor (C : zx_C p s m args c cc nL own B D cl tys A) {x y : Int64} (hd : decode cc pc = .ok (.lor, 1)) (h : zx_At p l e R s m args below meth c Q D cl A nL lv ws kc ks (pc + 1) (.long (x ||| y) :: st)) : zx_At p l e R s m args below meth c Q D cl A nL lv ws kc ks pc (.long y :: .long x :: st) := fun H locs ls hl hP hD hS => lv_lor C.hx C.hb hd  (h H locs ls hl hP hD hS)
theorem zx_i2l (C : zx_C p s m args c cc nL own B D cl tys A) {x : Int32} {v : Int64} (hd : decode cc pc = .ok (.i2l, 1)) (hv : x.toInt64 = v) (h : zx_At p l e R s m args below meth c Q D cl A nL lv ws kc ks (pc + 1) (.long v :: st)) : zx_At p l e R s m args below meth c Q D cl A nL lv ws kc ks pc (.int x :: st) := fun H locs ls hl hP hD hS => lv_i2l C.hx C.hb hd hv (h H locs ls hl hP hD hS)
theorem zx_l2i (C : zx_C p s m args c cc nL own B D cl tys A) {x : Int64} {v : Int32} (hd : decode cc pc = .ok (.l2i, 1)) (hv : x.toInt32 = v) (h : zx_At p l e R s m args below meth c Q D cl A nL lv ws kc ks (pc + 1) (.int v :: st)) : zx_At p l e R s m args below meth c Q D cl A nL lv ws kc ks pc (.long x :: st) := fun H locs ls hl hP hD hS => lv_l2i C.hx C.hb hd hv (h H locs ls hl hP hD hS)
theorem zx_i2b (C : zx_C p s m args c cc nL own B D cl tys A) {x v : Int32} (hd : decode cc pc = .ok (.i2b, 1)) (hv : x.toInt8.toInt32 = v) (h : zx_At p l e R s m args below meth c Q D cl A nL lv ws kc ks (pc + 1) (.int v :: st)) : zx_At p l e R s m args below meth c Q D cl A nL lv ws kc ks pc (.int x :: st) := fun H locs ls hl hP hD hS => lv_i2b C.hx C.hb hd hv (h H locs ls hl hP hD hS)
theorem zx_iushr (C : zx_C p s m args c cc nL own B D cl tys A) {x y v : Int32} (hd : decode cc pc = .ok (.iushr, 1)) (hv : (x.toUInt32 >>> (y.toUInt32 &&& Int32.toUInt32 31)).toInt32 = v) (h : zx_At p l e R s m args below meth c Q D cl A nL lv ws kc ks (pc + 1) (.int v :: st)) : zx_At p l e R s m args below meth c Q D cl A nL lv ws kc ks pc (.int y :: .int x :: st) := fun H locs ls hl hP hD hS => lv_iushr C.hx C.hb hd hv (h H locs ls hl hP hD hS)
theorem zx_lshl (C : zx_C p s m args c cc nL own B D cl tys A) {x v : Int64} {y : Int32} (hd : decode cc pc = .ok (.lshl, 1)) (hv : x <<< (y.toInt64 &&& 63) = v) (h : zx_At p l e R s m args below meth c Q D cl A nL lv ws kc ks (pc + 1) (.long v :: st)) : zx_At p l e R s m args below meth c Q D cl A nL lv ws kc ks pc (.int y :: .long x :: st) := fun H locs ls hl hP hD hS => lv_lshl C.hx C.hb hd hv (h H locs ls hl hP hD hS)
theorem zx_dup (C : zx_C p s m args c cc nL own B D cl tys A) {va : Value} (hd : decode cc pc = .ok (.dup, 1)) (hva : va.category = 1) (h : zx_At p l e R s m args below meth c Q D cl A nL lv ws kc ks (pc + 1) (va :: va :: st)) : zx_At p l e R s m args below meth c Q D cl A nL lv ws kc ks pc (va :: st) := fun H locs ls hl hP hD hS => lv_dup C.hx C.hb hd hva (h H locs ls hl hP hD hS)
theorem zx_dup2 (C : zx_C p s m args c cc nL own B D cl tys A) {va vb : Value} (hd : decode cc pc = .ok (.dup2, 1)) (hva : va.category = 1) (hvb : vb.category = 1) (h : zx_At p l e R s m args below meth c Q D cl A nL lv ws kc ks (pc + 1) (va :: vb :: va :: vb :: st)) : zx_At p l e R s m args below meth c Q D cl A nL lv ws kc ks pc (va :: vb :: st) := fun H locs ls hl hP hD hS => lv_dup2_11 C.hx C.hb hd hva hvb (h H locs ls hl hP hD hS)
theorem zx_dup_x1 (C : zx_C p s m args c cc nL own B D cl tys A) {va vb : Value} (hd : decode cc pc = .ok (.dup_x1, 1)) (hva : va.category = 1) (hvb : vb.category = 1) (h : zx_At p l e R s m args below meth c Q D cl A nL lv ws kc ks (pc + 1) (va :: vb :: va :: st)) : zx_At p l e R s m args below meth c Q D cl A nL lv ws kc ks pc (va :: vb :: st) := fun H locs ls hl hP hD hS => lv_dup_x1 C.hx C.hb hd hva hvb (h H locs ls hl hP hD hS)
theorem zx_pop (C : zx_C p s m args c cc nL own B D cl tys A) {va : Value} (hd : decode cc pc = .ok (.pop, 1)) (hva : va.category = 1) (h : zx_At p l e R s m args below meth c Q D cl A nL lv ws kc ks (pc + 1) st) : zx_At p l e R s m args below meth c Q D cl A nL lv ws kc ks pc (va :: st) := fun H locs ls hl hP hD hS => lv_pop C.hx C.hb hd hva (h H locs ls hl hP hD hS)
theorem zx_pop2l (C : zx_C p s m args c cc nL own B D cl tys A) {va : Value} (hd : decode cc pc = .ok (.pop2, 1)) (hva : va.category = 2) (h : zx_At p l e R s m args below meth c Q D cl A nL lv ws kc ks (pc + 1) st) : zx_At p l e R s m args below meth c Q D cl A nL lv ws kc ks pc (va :: st) := fun H locs ls hl hP hD hS => lv_pop2_2 C.hx C.hb hd hva (h H locs ls hl hP hD hS)
theorem zx_if_eq (C : zx_C p s m args c cc nL own B D cl tys A) {x : Int32} {off : Int} (tgt : Nat) (hd : decode cc pc = .ok (.ifCond .eq off, 3)) (ht : (pc : Int) + off = (tgt : Int)) (kt : x = 0 → zx_At p l e R s m args below meth c Q D cl A nL lv ws kc ks tgt st) (kf : ¬ x = 0 → zx_At p l e R s m args below meth c Q D cl A nL lv ws kc ks (pc + 3) st) : zx_At p l e R s m args below meth c Q D cl A nL lv ws kc ks pc (.int x :: st) := fun H locs ls hl hP hD hS => lv_if_eq C.hx C.hb hd ht (fun q => kt q H locs ls hl hP hD hS) (fun q => kf q H locs ls hl hP hD hS)
theorem zx_if_ne (C : zx_C p s m args c cc nL own B D cl tys A) {x : Int32} {off : Int} (tgt : Nat) (hd : decode cc pc = .ok (.ifCond .ne off, 3)) (ht : (pc : Int) + off = (tgt : Int)) (kt : ¬ x = 0 → zx_At p l e R s m args below meth c Q D cl A nL lv ws kc ks tgt st) (kf : x = 0 → zx_At p l e R s m args below meth c Q D cl A nL lv ws kc ks (pc + 3) st) : zx_At p l e R s m args below meth c Q D cl A nL lv ws kc ks pc (.int x :: st) := fun H locs ls hl hP hD hS => lv_if_ne C.hx C.hb hd ht (fun q => kt q H locs ls hl hP hD hS) (fun q => kf q H locs ls hl hP hD hS)
theorem zx_if_lt (C : zx_C p s m args c cc nL own B D cl tys A) {x : Int32} {off : Int} (tgt : Nat) (hd : decode cc pc = .ok (.ifCond .lt off, 3)) (ht : (pc : Int) + off = (tgt : Int)) (kt : x < 0 → zx_At p l e R s m args below meth c Q D cl A nL lv ws kc ks tgt st) (kf : ¬ x < 0 → zx_At p l e R s m args below meth c Q D cl A nL lv ws kc ks (pc + 3) st) : zx_At p l e R s m args below meth c Q D cl A nL lv ws kc ks pc (.int x :: st) := fun H locs ls hl hP hD hS => lv_if_lt C.hx C.hb hd ht (fun q => kt q H locs ls hl hP hD hS) (fun q => kf q H locs ls hl hP hD hS)
theorem zx_if_ge (C : zx_C p s m args c cc nL own B D cl tys A) {x : Int32} {off : Int} (tgt : Nat) (hd : decode cc pc = .ok (.ifCond .ge off, 3)) (ht : (pc : Int) + off = (tgt : Int)) (kt : 0 ≤ x → zx_At p l e R s m args below meth c Q D cl A nL lv ws kc ks tgt st) (kf : ¬ 0 ≤ x → zx_At p l e R s m args below meth c Q D cl A nL lv ws kc ks (pc + 3) st) : zx_At p l e R s m args below meth c Q D cl A nL lv ws kc ks pc (.int x :: st) := fun H locs ls hl hP hD hS => lv_if_ge C.hx C.hb hd ht (fun q => kt q H locs ls hl hP hD hS) (fun q => kf q H locs ls hl hP hD hS)
theorem zx_if_gt (C : zx_C p s m args c cc nL own B D cl tys A) {x : Int32} {off : Int} (tgt : Nat) (hd : decode cc pc = .ok (.ifCond .gt off, 3)) (ht : (pc : Int) + off = (tgt : Int)) (kt : 0 < x → zx_At p l e R s m args below meth c Q D cl A nL lv ws kc ks tgt st) (kf : ¬ 0 < x → zx_At p l e R s m args below meth c Q D cl A nL lv ws kc ks (pc + 3) st) : zx_At p l e R s m args below meth c Q D cl A nL lv ws kc ks pc (.int x :: st) := fun H locs ls hl hP hD hS => lv_if_gt C.hx C.hb hd ht (fun q => kt q H locs ls hl hP hD hS) (fun q => kf q H locs ls hl hP hD hS)
theorem zx_if_le (C : zx_C p s m args c cc nL own B D cl tys A) {x : Int32} {off : Int} (tgt : Nat) (hd : decode cc pc = .ok (.ifCond .le off, 3)) (ht : (pc : Int) + off = (tgt : Int)) (kt : x ≤ 0 → zx_At p l e R s m args below meth c Q D cl A nL lv ws kc ks tgt st) (kf : ¬ x ≤ 0 → zx_At p l e R s m args below meth c Q D cl A nL lv ws kc ks (pc + 3) st) : zx_At p l e R s m args below meth c Q D cl A nL lv ws kc ks pc (.int x :: st) := fun H locs ls hl hP hD hS => lv_if_le C.hx C.hb hd ht (fun q => kt q H locs ls hl hP hD hS) (fun q => kf q H locs ls hl hP hD hS)
theorem zx_icmp_eq (C : zx_C p s m args c cc nL own B D cl tys A) {x y : Int32} {off : Int} (tgt : Nat) (hd : decode cc pc = .ok (.if_icmp .eq off, 3)) (ht : (pc : Int) + off = (tgt : Int)) (kt : x = y → zx_At p l e R s m args below meth c Q D cl A nL lv ws kc ks tgt st) (kf : ¬ x = y → zx_At p l e R s m args below meth c Q D cl A nL lv ws kc ks (pc + 3) st) : zx_At p l e R s m args below meth c Q D cl A nL lv ws kc ks pc (.int y :: .int x :: st) := fun H locs ls hl hP hD hS => lv_icmp_eq C.hx C.hb hd ht (fun q => kt q H locs ls hl hP hD hS) (fun q => kf q H locs ls hl hP hD hS)
theorem zx_icmp_ne (C : zx_C p s m args c cc nL own B D cl tys A) {x y : Int32} {off : Int} (tgt : Nat) (hd : decode cc pc = .ok (.if_icmp .ne off, 3)) (ht : (pc : Int) + off = (tgt : Int)) (kt : ¬ x = y → zx_At p l e R s m args below meth c Q D cl A nL lv ws kc ks tgt st) (kf : x = y → zx_At p l e R s m args below meth c Q D cl A nL lv ws kc ks (pc + 3) st) : zx_At p l e R s m args below meth c Q D cl A nL lv ws kc ks pc (.int y :: .int x :: st) := fun H locs ls hl hP hD hS => lv_icmp_ne C.hx C.hb hd ht (fun q => kt q H locs ls hl hP hD hS) (fun q => kf q H locs ls hl hP hD hS)
theorem zx_icmp_lt (C : zx_C p s m args c cc nL own B D cl tys A) {x y : Int32} {off : Int} (tgt : Nat) (hd : decode cc pc = .ok (.if_icmp .lt off, 3)) (ht : (pc : Int) + off = (tgt : Int)) (kt : x < y → zx_At p l e R s m args below meth c Q D cl A nL lv ws kc ks tgt st) (kf : ¬ x < y → zx_At p l e R s m args below meth c Q D cl A nL lv ws kc ks (pc + 3) st) : zx_At p l e R s m args below meth c Q D cl A nL lv ws kc ks pc (.int y :: .int x :: st) := fun H locs ls hl hP hD hS => lv_icmp_lt C.hx C.hb hd ht (fun q => kt q H locs ls hl hP hD hS) (fun q => kf q H locs ls hl hP hD hS)
theorem zx_icmp_ge (C : zx_C p s m args c cc nL own B D cl tys A) {x y : Int32} {off : Int} (tgt : Nat) (hd : decode cc pc = .ok (.if_icmp .ge off, 3)) (ht : (pc : Int) + off = (tgt : Int)) (kt : y ≤ x → zx_At p l e R s m args below meth c Q D cl A nL lv ws kc ks tgt st) (kf : ¬ y ≤ x → zx_At p l e R s m args below meth c Q D cl A nL lv ws kc ks (pc + 3) st) : zx_At p l e R s m args below meth c Q D cl A nL lv ws kc ks pc (.int y :: .int x :: st) := fun H locs ls hl hP hD hS => lv_icmp_ge C.hx C.hb hd ht (fun q => kt q H locs ls hl hP hD hS) (fun q => kf q H locs ls hl hP hD hS)
theorem zx_icmp_gt (C : zx_C p s m args c cc nL own B D cl tys A) {x y : Int32} {off : Int} (tgt : Nat) (hd : decode cc pc = .ok (.if_icmp .gt off, 3)) (ht : (pc : Int) + off = (tgt : Int)) (kt : y < x → zx_At p l e R s m args below meth c Q D cl A nL lv ws kc ks tgt st) (kf : ¬ y < x → zx_At p l e R s m args below meth c Q D cl A nL lv ws kc ks (pc + 3) st) : zx_At p l e R s m args below meth c Q D cl A nL lv ws kc ks pc (.int y :: .int x :: st) := fun H locs ls hl hP hD hS => lv_icmp_gt C.hx C.hb hd ht (fun q => kt q H locs ls hl hP hD hS) (fun q => kf q H locs ls hl hP hD hS)
theorem zx_icmp_le (C : zx_C p s m args c cc nL own B D cl tys A) {x y : Int32} {off : Int} (tgt : Nat) (hd : decode cc pc = .ok (.if_icmp .le off, 3)) (ht : (pc : Int) + off = (tgt : Int)) (kt : x ≤ y → zx_At p l e R s m args below meth c Q D cl A nL lv ws kc ks tgt st) (kf : ¬ x ≤ y → zx_At p l e R s m args below meth c Q D cl A nL lv ws kc ks (pc + 3) st) : zx_At p l e R s m args below meth c Q D cl A nL lv ws kc ks pc (.int y :: .int x :: st) := fun H locs ls hl hP hD hS => lv_icmp_le C.hx C.hb hd ht (fun q => kt q H locs ls hl hP hD hS) (fun q => kf q H locs ls hl hP hD hS)
theorem zx_goto (C : zx_C p s m args c cc nL own B D cl tys A) {off : Int} (tgt : Nat) (hd : decode cc pc = .ok (.goto off, 3)) (ht : (pc : Int) + off = (tgt : Int)) (h : zx_At p l e R s m args below meth c Q D cl A nL lv ws kc ks tgt st) : zx_At p l e R s m args below meth c Q D cl A nL lv ws kc ks pc st := fun H locs ls hl hP hD hS => lv_goto C.hx C.hb hd ht (h H locs ls hl hP hD hS)
theorem zx_get (C : zx_C p s m args c cc nL own B D cl tys A) {ref Cn : String} {T : u_T} {N ci ix : Nat} {a : Nat} {fs : List Value} (hin : ∀ w ∈ u_ws Cn T N, w ∈ B) (q0 : Nat) (he : ws[q0]? = some (a, .inr (ci, fs))) (hc : cl[ci]? = some (Cn, T, N)) (f : Nat) (hf : f < N) (hk : Cond.fieldLink own ix ref (T f).2.1 (T f).2.2.1 ∈ B) (hr : (T f).1 = ref) {v : Value} (hv : fs[f]? = some v) (hd : decode cc pc = .ok (.getfield ix, 3)) (h : zx_At p l e R s m args below meth c Q D cl A nL lv ws kc ks (pc + 3) (v :: st)) : zx_At p l e R s m args below meth c Q D cl A nL lv ws kc ks pc (.ref a :: st) := fun H locs ls hl hP hD hS => va_get C.hx C.hb C.ts hin C.ho C.k hP q0 he hc f hf (C.w hk) (fun x hx => by rw [← hr]; exact hx) hv hd (h H locs ls hl hP hD hS)
theorem zx_getN (C : zx_C p s m args c cc nL own B D cl tys A) {ref Cn : String} {T : u_T} {N ci ix : Nat} {a : Nat} {fs : List Value} {host : String} (hin : ∀ w ∈ u_ws Cn T N, w ∈ B) (q0 : Nat) (he : ws[q0]? = some (a, .inr (ci, fs))) (hc : cl[ci]? = some (Cn, T, N)) (f : Nat) (hf : f < N) (hk : Cond.fieldLinkNest own ix ref (T f).2.1 (T f).2.2.1 host ∈ B) (hr : (T f).1 = ref) {v : Value} (hv : fs[f]? = some v) (hd : decode cc pc = .ok (.getfield ix, 3)) (h : zx_At p l e R s m args below meth c Q D cl A nL lv ws kc ks (pc + 3) (v :: st)) : zx_At p l e R s m args below meth c Q D cl A nL lv ws kc ks pc (.ref a :: st) := fun H locs ls hl hP hD hS => va_getN C.hx C.hb C.ts hin C.ho C.k hP q0 he hc f hf (C.w hk) (fun x hx => by rw [← hr]; exact hx) hv hd (h H locs ls hl hP hD hS)
theorem zx_put (C : zx_C p s m args c cc nL own B D cl tys A) {ref Cn : String} {T : u_T} {N ci ix : Nat} {a : Nat} {fs : List Value} (hin : ∀ w ∈ u_ws Cn T N, w ∈ B) (ty0 : Nat → FieldType) (hty : ∀ k, k < N → parseFieldDescriptor (T k).2.2.1 = some (ty0 k)) (hnm : ∀ a, a < N → ∀ b, b < N → a ≠ b → (T a).2.1 ≠ (T b).2.1) (q0 : Nat) (he : ws[q0]? = some (a, .inr (ci, fs))) (hc : cl[ci]? = some (Cn, T, N)) (f : Nat) (hf : f < N) (hk : Cond.fieldLink own ix ref (T f).2.1 (T f).2.2.1 ∈ B) (hr : (T f).1 = ref) (hfin : (T f).2.2.2 = false) {ty : FieldType} {v : Value} (hdd : parseFieldDescriptor (T f).2.2.1 = some ty) (hna : narrow ty v = v) (hfi : fits ty v = true) (hle : f < fs.length) (hw : ws.set q0 (a, .inr (ci, fs.set f v)) = ws') (hd : decode cc pc = .ok (.putfield ix, 3)) (h : zx_At p l e R s m args below meth c Q D cl A nL lv ws' kc ks (pc + 3) st) : zx_At p l e R s m args below meth c Q D cl A nL lv ws kc ks pc (v :: .ref a :: st) := fun H locs ls hl hP hD hS => va_put C.hx C.hb C.ts hin ty0 hty hnm C.ho C.k hP hD hS q0 he hc f hf (C.w hk) (fun x hx => by rw [← hr]; exact hx) hfin hdd hna hfi hle hd (fun H1 l1 hP1 hD1 hS1 => h H1 l1 ls hl (hw ▸ hP1) (hw ▸ hD1) hS1)
theorem zx_putN (C : zx_C p s m args c cc nL own B D cl tys A) {ref Cn : String} {T : u_T} {N ci ix : Nat} {a : Nat} {fs : List Value} {host : String} (hin : ∀ w ∈ u_ws Cn T N, w ∈ B) (ty0 : Nat → FieldType) (hty : ∀ k, k < N → parseFieldDescriptor (T k).2.2.1 = some (ty0 k)) (hnm : ∀ a, a < N → ∀ b, b < N → a ≠ b → (T a).2.1 ≠ (T b).2.1) (q0 : Nat) (he : ws[q0]? = some (a, .inr (ci, fs))) (hc : cl[ci]? = some (Cn, T, N)) (f : Nat) (hf : f < N) (hk : Cond.fieldLinkNest own ix ref (T f).2.1 (T f).2.2.1 host ∈ B) (hr : (T f).1 = ref) (hfin : (T f).2.2.2 = false) {ty : FieldType} {v : Value} (hdd : parseFieldDescriptor (T f).2.2.1 = some ty) (hna : narrow ty v = v) (hfi : fits ty v = true) (hle : f < fs.length) (hw : ws.set q0 (a, .inr (ci, fs.set f v)) = ws') (hd : decode cc pc = .ok (.putfield ix, 3)) (h : zx_At p l e R s m args below meth c Q D cl A nL lv ws' kc ks (pc + 3) st) : zx_At p l e R s m args below meth c Q D cl A nL lv ws kc ks pc (v :: .ref a :: st) := fun H locs ls hl hP hD hS => va_putN C.hx C.hb C.ts hin ty0 hty hnm C.ho C.k hP hD hS q0 he hc f hf (C.w hk) (fun x hx => by rw [← hr]; exact hx) hfin hdd hna hfi hle hd (fun H1 l1 hP1 hD1 hS1 => h H1 l1 ls hl (hw ▸ hP1) (hw ▸ hD1) hS1)
theorem zx_putF (C : zx_C p s m args c cc nL own B D cl tys A) {ref Cn : String} {T : u_T} {N ci ix : Nat} {a : Nat} {fs : List Value} (hin : ∀ w ∈ u_ws Cn T N, w ∈ B) (ty0 : Nat → FieldType) (hty : ∀ k, k < N → parseFieldDescriptor (T k).2.2.1 = some (ty0 k)) (hnm : ∀ a, a < N → ∀ b, b < N → a ≠ b → (T a).2.1 ≠ (T b).2.1) (q0 : Nat) (he : ws[q0]? = some (a, .inr (ci, fs))) (hc : cl[ci]? = some (Cn, T, N)) (f : Nat) (hf : f < N) (hk : Cond.fieldLink own ix ref (T f).2.1 (T f).2.2.1 ∈ B) (hr : (T f).1 = ref) (hfin : (T f).2.2.2 = true) (hi : meth.name = "<init>") (hde : (T f).1 = own) {ty : FieldType} {v : Value} (hdd : parseFieldDescriptor (T f).2.2.1 = some ty) (hna : narrow ty v = v) (hfi : fits ty v = true) (hle : f < fs.length) (hw : ws.set q0 (a, .inr (ci, fs.set f v)) = ws') (hd : decode cc pc = .ok (.putfield ix, 3)) (h : zx_At p l e R s m args below meth c Q D cl A nL lv ws' kc ks (pc + 3) st) : zx_At p l e R s m args below meth c Q D cl A nL lv ws kc ks pc (v :: .ref a :: st) := fun H locs ls hl hP hD hS => va_putF C.hx C.hb C.ts hin ty0 hty hnm C.ho C.k hP hD hS q0 he hc f hf (C.w hk) (fun x hx => by rw [← hr]; exact hx) hfin hi hde hdd hna hfi hle hd (fun H1 l1 hP1 hD1 hS1 => h H1 l1 ls hl (hw ▸ hP1) (hw ▸ hD1) hS1)
theorem zx_iald (C : zx_C p s m args c cc nL own B D cl tys A) (q0 t0 : Nat) {a n : Nat} {cA : ClassId} {f : Nat → Int32} (ha : ws[q0]? = some (a, .inl (cA, n, .inl f))) (ht : tys[t0]? = some (cA, .int)) {i : Int32} (j : Nat) (hi : i = nI j) (hj : j < n) (hn : n < 2 ^ 31) (hd : decode cc pc = .ok (.iaload, 1)) (h : zx_At p l e R s m args below meth c Q D cl A nL lv ws kc ks (pc + 1) (.int (f j) :: st)) : zx_At p l e R s m args below meth c Q D cl A nL lv ws kc ks pc (.int i :: .ref a :: st) := fun H locs ls hl hP hD hS => va_iald C.hx C.hb C.k hP q0 t0 ha ht (by rw [hi]; exact vp_in_nI hj hn) hd (by rw [hi, nI_clamp (Nat.lt_trans hj hn)]; exact h H locs ls hl hP hD hS)
theorem zx_iast (C : zx_C p s m args c cc nL own B D cl tys A) (q0 t0 : Nat) {a n : Nat} {cA : ClassId} {f : Nat → Int32} (ha : ws[q0]? = some (a, .inl (cA, n, .inl f))) (ht : tys[t0]? = some (cA, .int)) {i : Int32} {x : Int32} (j : Nat) (hi : i = nI j) (hj : j < n) (hn : n < 2 ^ 31) (hw : ws.set q0 (a, .inl (cA, n, .inl (upd f j x))) = ws') (hd : decode cc pc = .ok (.iastore, 1)) (h : zx_At p l e R s m args below meth c Q D cl A nL lv ws' kc ks (pc + 1) st) : zx_At p l e R s m args below meth c Q D cl A nL lv ws kc ks pc (.int x :: .int i :: .ref a :: st) := fun H locs ls hl hP hD hS => va_iast C.hx C.hb C.k hP hD hS q0 t0 ha ht (by rw [hi]; exact vp_in_nI hj hn) hd (fun H1 l1 hP1 hD1 hS1 => by
    rw [hi, nI_clamp (Nat.lt_trans hj hn)] at hP1 hD1
    exact h H1 l1 ls hl (hw ▸ hP1) (hw ▸ hD1) hS1)
theorem zx_bald (C : zx_C p s m args c cc nL own B D cl tys A) (q0 t0 : Nat) {a n : Nat} {cA : ClassId} {f : Nat → Int32} (ha : ws[q0]? = some (a, .inl (cA, n, .inl f))) (ht : tys[t0]? = some (cA, .byte)) {i : Int32} (j : Nat) (hi : i = nI j) (hj : j < n) (hn : n < 2 ^ 31) (hd : decode cc pc = .ok (.baload, 1)) (h : zx_At p l e R s m args below meth c Q D cl A nL lv ws kc ks (pc + 1) (.int (f j) :: st)) : zx_At p l e R s m args below meth c Q D cl A nL lv ws kc ks pc (.int i :: .ref a :: st) := fun H locs ls hl hP hD hS => va_bald C.hx C.hb C.k hP q0 t0 ha ht (by rw [hi]; exact vp_in_nI hj hn) hd (by rw [hi, nI_clamp (Nat.lt_trans hj hn)]; exact h H locs ls hl hP hD hS)
theorem zx_bast (C : zx_C p s m args c cc nL own B D cl tys A) (q0 t0 : Nat) {a n : Nat} {cA : ClassId} {f : Nat → Int32} (ha : ws[q0]? = some (a, .inl (cA, n, .inl f))) (ht : tys[t0]? = some (cA, .byte)) {i : Int32} {x : Int32} (j : Nat) (hi : i = nI j) (hj : j < n) (hn : n < 2 ^ 31) (hw : ws.set q0 (a, .inl (cA, n, .inl (upd f j (vp_nar .byte x)))) = ws') (hd : decode cc pc = .ok (.bastore, 1)) (h : zx_At p l e R s m args below meth c Q D cl A nL lv ws' kc ks (pc + 1) st) : zx_At p l e R s m args below meth c Q D cl A nL lv ws kc ks pc (.int x :: .int i :: .ref a :: st) := fun H locs ls hl hP hD hS => va_bast C.hx C.hb C.k hP hD hS q0 t0 ha ht (by rw [hi]; exact vp_in_nI hj hn) hd (fun H1 l1 hP1 hD1 hS1 => by
    rw [hi, nI_clamp (Nat.lt_trans hj hn)] at hP1 hD1
    exact h H1 l1 ls hl (hw ▸ hP1) (hw ▸ hD1) hS1)
theorem zx_lald (C : zx_C p s m args c cc nL own B D cl tys A) (q0 t0 : Nat) {a n : Nat} {cA : ClassId} {f : Nat → Int64} (ha : ws[q0]? = some (a, .inl (cA, n, .inr (.inl f)))) (ht : tys[t0]? = some (cA, .long)) {i : Int32} (j : Nat) (hi : i = nI j) (hj : j < n) (hn : n < 2 ^ 31) (hd : decode cc pc = .ok (.laload, 1)) (h : zx_At p l e R s m args below meth c Q D cl A nL lv ws kc ks (pc + 1) (.long (f j) :: st)) : zx_At p l e R s m args below meth c Q D cl A nL lv ws kc ks pc (.int i :: .ref a :: st) := fun H locs ls hl hP hD hS => va_lald C.hx C.hb C.k hP q0 t0 ha ht (by rw [hi]; exact vp_in_nI hj hn) hd (by rw [hi, nI_clamp (Nat.lt_trans hj hn)]; exact h H locs ls hl hP hD hS)
theorem zx_last (C : zx_C p s m args c cc nL own B D cl tys A) (q0 t0 : Nat) {a n : Nat} {cA : ClassId} {f : Nat → Int64} (ha : ws[q0]? = some (a, .inl (cA, n, .inr (.inl f)))) (ht : tys[t0]? = some (cA, .long)) {i : Int32} {x : Int64} (j : Nat) (hi : i = nI j) (hj : j < n) (hn : n < 2 ^ 31) (hw : ws.set q0 (a, .inl (cA, n, .inr (.inl (vp_updL f j x)))) = ws') (hd : decode cc pc = .ok (.lastore, 1)) (h : zx_At p l e R s m args below meth c Q D cl A nL lv ws' kc ks (pc + 1) st) : zx_At p l e R s m args below meth c Q D cl A nL lv ws kc ks pc (.long x :: .int i :: .ref a :: st) := fun H locs ls hl hP hD hS => va_last C.hx C.hb C.k hP hD hS q0 t0 ha ht (by rw [hi]; exact vp_in_nI hj hn) hd (fun H1 l1 hP1 hD1 hS1 => by
    rw [hi, nI_clamp (Nat.lt_trans hj hn)] at hP1 hD1
    exact h H1 l1 ls hl (hw ▸ hP1) (hw ▸ hD1) hS1)
theorem zx_alen (C : zx_C p s m args c cc nL own B D cl tys A) (q0 t0 : Nat) {a : Nat} {cA : ClassId} {x : vp_A} (ha : ws[q0]? = some (a, .inl (cA, x))) {ty : FieldType} (ht : tys[t0]? = some (cA, ty)) {v : Int32} (hv : Int32.ofNat x.1 = v) (hd : decode cc pc = .ok (.arraylength, 1)) (h : zx_At p l e R s m args below meth c Q D cl A nL lv ws kc ks (pc + 1) (.int v :: st)) : zx_At p l e R s m args below meth c Q D cl A nL lv ws kc ks pc (.ref a :: st) := fun H locs ls hl hP hD hS => va_alen C.hx C.hb C.k hP q0 t0 ha ht hv hd (h H locs ls hl hP hD hS)
theorem zx_newa (C : zx_C p s m args c cc nL own B D cl tys A) {atype : ArrayType} {ty : FieldType} (hty : newarray.typeOf atype = ty) (hp : ty = .byte ∨ ty = .int ∨ ty = .long) (harr : Cond.arrayClass ty ∈ B) (t0 : Nat) {cA : ClassId} (ht : tys[t0]? = some (cA, ty)) {z : Int32} {N : Nat} {a0 : vp_A} (ha : ∀ cA : ClassId, vp_cell cA a0 = arrV cA N (fun _ => defaultValue ty)) (hn : ¬ z < 0) (hN : z.toNatClampNeg = N) (hbytes : N * componentBytes ty ≤ 536870912) (h1 : kc + 1 ≤ R.cells) (h2 : ks + N ≤ R.slots) (hd : decode cc pc = .ok (.newarray atype, 2)) (h : ∀ q : Nat, zx_At p l e R s m args below meth c Q D cl A nL lv (ws ++ [(q, .inl (cA, a0))]) (kc + 1) (ks + N) (pc + 2) (.ref q :: st)) : zx_At p l e R s m args below meth c Q D cl A nL lv ws kc ks pc (.int z :: st) := fun H locs ls hl hP hD hS => by
  refine va_newa C.hx C.hb (by rw [hty]; exact C.w harr) hty C.k hP hD hS C.hA ha hn hN hbytes h1 h2 hd (fun q cB H1 hK1 hP1 hD1 hS1 => ?_)
  have e1 := (C.k.2 t0 _ ht).2
  have e2 := (hK1.2 tys.length (cB, ty) (by simp)).2
  have e3 : cB = cA := by
    rcases hp with rfl | rfl | rfl
    · exact Option.some.inj (Eq.trans (Eq.symm (show s.vm.findClass ("[" ++ FieldType.byte.toString) = some cB from e2)) (show s.vm.findClass ("[" ++ FieldType.byte.toString) = some cA from e1))
    · exact Option.some.inj (Eq.trans (Eq.symm (show s.vm.findClass ("[" ++ FieldType.int.toString) = some cB from e2)) (show s.vm.findClass ("[" ++ FieldType.int.toString) = some cA from e1))
    · exact Option.some.inj (Eq.trans (Eq.symm (show s.vm.findClass ("[" ++ FieldType.long.toString) = some cB from e2)) (show s.vm.findClass ("[" ++ FieldType.long.toString) = some cA from e1))
  subst e3
  exact h q H1 locs ls hl hP1 hD1 hS1
theorem zx_new (C : zx_C p s m args c cc nL own B D cl tys A) {Cn : String} {T : u_T} {N ci ix : Nat} (hin : ∀ w ∈ u_ws Cn T N, w ∈ B) (ty : Nat → FieldType) (hty : ∀ k, k < N → parseFieldDescriptor (T k).2.2.1 = some (ty k)) (hk : Cond.classLink own ix Cn ∈ B) (hi : Cond.instantiable Cn N ∈ B) (hini : Cond.initialized Cn ∈ B) (hc : cl[ci]? = some (Cn, T, N)) {fs : List Value} (hfs : ∀ j, j < N → defaultValue (ty j) = vp_V fs j) (h1 : kc + 1 ≤ R.cells) (h2 : ks + N ≤ R.slots) (hd : decode cc pc = .ok (.new ix, 3)) (h : ∀ q : Nat, zx_At p l e R s m args below meth c Q D cl A nL lv (ws ++ [(q, .inr (ci, fs))]) (kc + 1) (ks + N) (pc + 3) (.ref q :: st)) : zx_At p l e R s m args below meth c Q D cl A nL lv ws kc ks pc st := fun H locs ls hl hP hD hS => va_new C.hx C.hb C.ts hin ty hty C.ho (C.w hk) (C.w hi) (C.w hini) C.k hP hD hS C.hA hc hfs h1 h2 hd (fun q H1 hP1 hD1 hS1 => h q H1 locs ls hl hP1 hD1 hS1)
theorem zx_objInit (C : zx_C p s m args c cc nL own B D cl tys A) {ix a : Nat} (hk : Cond.methodLink own ix Lib.objectInit ∈ B) (hi : Cond.instanceMethod Lib.objectInit ∈ B) (hco : Cond.code Lib.objectInit ⟨#[0xb1]⟩ 1 none ∈ B) (hd : decode cc pc = .ok (.invokespecial ix, 3)) (hf : 1 ≤ R.frames) (hlo : (st.map fun v => v.category).sum + 12 ≤ R.locals) (h : zx_At p l e R s m args below meth c Q D cl A nL lv ws kc ks (pc + 3) st) : zx_At p l e R s m args below meth c Q D cl A nL lv ws kc ks pc (.ref a :: st) := fun H locs ls hl hP hD hS => W.objInit C.hx C.hb C.ho (C.w hk) (C.w hi) (C.w hco) rfl (by rw [C.hml]; exact hl.1) rfl hd hf (by show 2 * 0 + _ + 12 ≤ _; omega) (h H locs ls hl hP hD hS)
/-- a contract's end: the outcome, the cells, what was not touched, how much was made -/
def zx_ck : Outcome → Nat → Nat → Nat
  | .returned _, a, _ => a
  | .threw _, _, b => b
def zx_Q (below : List Frame) (s : State) (D : va_G) (cl : List vw_C) (w0 : va_W) (kr nr : Nat) (R : Room) (post : Outcome → va_W → Prop) : State → Prop := fun t => ∃ o, t.status = .running ∧ Ended t below o ∧ s.WarmedH t.vm ∧ (∃ L, s.sameButNew ({ t with vm := s.vm } : State) L (zx_ck o kr R.cells) (zx_ck o nr R.slots) ∧ ∀ q ∈ L, va_A w0 s.heap.size q.base) ∧ (∃ ws', post o ws' ∧ va_P D cl ws' t.heap ∧ va_D (va_A w0 s.heap.size) ws') ∧ va_F (va_A w0 s.heap.size) s t
def zx_Qc (D : va_G) (cl : List vw_C) (w0 : va_W) (sz : Nat) (post : Outcome → va_W → Prop) : Array Value → State → Outcome → State → Prop := fun _ st o t => (∃ ws', post o ws' ∧ va_P D cl ws' t.heap ∧ va_D (va_A w0 sz) ws') ∧ va_F (va_A w0 sz) st t
theorem zx_Q.of {below : List Frame} {s : State} {D : va_G} {cl : List vw_C} {w0 : va_W} {kr nr : Nat} {R : Room} {post : Outcome → va_W → Prop} {args : Array Value} {kc ks : Nat} {t : State} (hk : kc ≤ kr) (hs : ks ≤ nr) (h : MQ below (zx_Qc D cl w0 s.heap.size post) args s kc ks (va_A w0 s.heap.size) t) : zx_Q below s D cl w0 kr nr R post t := by
  obtain ⟨o, h1, h2, ⟨h3, h4⟩, L, ⟨⟨v, rfl⟩, h5, h6⟩, h7⟩ := h
  exact ⟨.returned v, h1, h2, h5, ⟨L, h6.mono hk hs, h7⟩, h3, h4⟩
theorem zx_iret {w0 : va_W} {kr nr : Nat} {post : Outcome → va_W → Prop} (C : zx_C p s m args c cc nL own B D cl tys (va_A w0 s.heap.size)) {v : Int32} (hr : meth.sig.returnType = some .int) (hlk : meth.locks = false) (hk : kc ≤ kr) (hs : ks ≤ nr) (hd : decode cc pc = .ok (.ireturn, 1)) (hq : post (.returned (some (.int v))) ws) : zx_At p l e R s m args below meth c (zx_Q below s D cl w0 kr nr R post) D cl (va_A w0 s.heap.size) nL lv ws kc ks pc [.int v] := fun H locs ls hl hP hD hS T hT X => by
  obtain ⟨t, a1, b1⟩ := W.iret (Qc := zx_Qc D cl w0 s.heap.size post) (free := va_A w0 s.heap.size) C.hx C.hb hr (fun t ht hW => ⟨⟨ws, hq, by rw [ht]; exact hP, hD⟩, hS.F ht⟩) hS.2.2 (ls := ls) hd hlk T hT X
  exact ⟨t, a1, zx_Q.of hk hs b1⟩
theorem zx_lret {w0 : va_W} {kr nr : Nat} {post : Outcome → va_W → Prop} (C : zx_C p s m args c cc nL own B D cl tys (va_A w0 s.heap.size)) {v : Int64} (hr : meth.sig.returnType = some .long) (hlk : meth.locks = false) (hk : kc ≤ kr) (hs : ks ≤ nr) (hd : decode cc pc = .ok (.lreturn, 1)) (hq : post (.returned (some (.long v))) ws) : zx_At p l e R s m args below meth c (zx_Q below s D cl w0 kr nr R post) D cl (va_A w0 s.heap.size) nL lv ws kc ks pc [.long v] := fun H locs ls hl hP hD hS T hT X => by
  obtain ⟨t, a1, b1⟩ := W.lret (Qc := zx_Qc D cl w0 s.heap.size post) (free := va_A w0 s.heap.size) C.hx C.hb hr (fun t ht hW => ⟨⟨ws, hq, by rw [ht]; exact hP, hD⟩, hS.F ht⟩) hS.2.2 (ls := ls) hd hlk T hT X
  exact ⟨t, a1, zx_Q.of hk hs b1⟩
theorem zx_vret {w0 : va_W} {kr nr : Nat} {post : Outcome → va_W → Prop} (C : zx_C p s m args c cc nL own B D cl tys (va_A w0 s.heap.size)) (hr : meth.sig.returnType = none) (hlk : meth.locks = false) (hk : kc ≤ kr) (hs : ks ≤ nr) (hd : decode cc pc = .ok (.return_, 1)) (hq : post (.returned (none)) ws) : zx_At p l e R s m args below meth c (zx_Q below s D cl w0 kr nr R post) D cl (va_A w0 s.heap.size) nL lv ws kc ks pc [] := fun H locs ls hl hP hD hS T hT X => by
  obtain ⟨t, a1, b1⟩ := W.vret (Qc := zx_Qc D cl w0 s.heap.size post) (free := va_A w0 s.heap.size) C.hx C.hb hr (fun t ht hW => ⟨⟨ws, hq, by rw [ht]; exact hP, hD⟩, hS.F ht⟩) hS.2.2 (ls := ls) hd hlk T hT X
  exact ⟨t, a1, zx_Q.of hk hs b1⟩
theorem zx_zret {w0 : va_W} {kr nr : Nat} {post : Outcome → va_W → Prop} (C : zx_C p s m args c cc nL own B D cl tys (va_A w0 s.heap.size)) {v : Int32} (hr : meth.sig.returnType = some .boolean) (hv : v = 0 ∨ v = 1) (hlk : meth.locks = false) (hk : kc ≤ kr) (hs : ks ≤ nr) (hd : decode cc pc = .ok (.ireturn, 1)) (hq : post (.returned (some (.int v))) ws) : zx_At p l e R s m args below meth c (zx_Q below s D cl w0 kr nr R post) D cl (va_A w0 s.heap.size) nL lv ws kc ks pc [.int v] := fun H locs ls hl hP hD hS T hT X => by
  obtain ⟨t, a1, b1⟩ := W.zret (Qc := zx_Qc D cl w0 s.heap.size post) (free := va_A w0 s.heap.size) C.hx C.hb hr (by rcases hv with rfl | rfl <;> decide) (fun t ht hW => ⟨⟨ws, hq, by rw [ht]; exact hP, hD⟩, hS.F ht⟩) hS.2.2 (ls := ls) hd hlk T hT X
  exact ⟨t, a1, zx_Q.of hk hs b1⟩
/-- an exception leaves the method: no handler covers pc -/
theorem zx_leave {w0 : va_W} {kr nr : Nat} {post : Outcome → va_W → Prop} {x : Nat} (hlk : meth.locks = false) (hout : ∀ h ∈ c.exceptionTable.toList, covers h pc = false) (hk : kc ≤ R.cells) (hs : ks ≤ R.slots) (hq : post (.threw x) ws) : zx_Th p l e R s m args below meth c (zx_Q below s D cl w0 kr nr R post) D cl (va_A w0 s.heap.size) nL lv ws kc ks pc st x := fun H locs ls hl hP hD hS T hT X => by
  obtain ⟨h1, h2, h3, h4, h5⟩ := X.leaveThrown x (g := F0 m pc ls st) rfl rfl rfl hout hlk
  exact ⟨_, h1, .threw x, h2, h3, h4, ⟨locs, h5.mono hk hs, hS.2.2⟩, ⟨ws, hq, by show va_P D cl ws T.heap; rw [hT]; exact hP, hD⟩, hS.F hT⟩
/-- the contract of a method: from cells w0 and arguments av it ends with 'post' -/
def zx_K (l : Launch) (B : List Cond) (D : va_G) (cl : List vw_C) (tys : List (ClassId × FieldType)) (y : MethodName) (cc : ByteArray) (nL : Nat) (ret : Option FieldType) (hs : List (Nat × Nat × Nat × Nat)) (kr nr : Nat) (R : Room) (av : List Value) (w0 : va_W) (post : Outcome → va_W → Prop) : Prop :=
  ∀ (p : Program) (e : Env) (s : State) (m : MethodId) (below : List Frame) (meth : Method) (c : Code), p.tables.exec = Jvm.exec → c.code = cc → c.maxLocals = nL → meth.sig.returnType = ret → meth.locks = false → c.exceptionTable.toList.map (fun h => (h.startPc, h.endPc, h.handlerPc, h.catchType)) = hs → s.vm.findClass y.cls = some m.cls → meth.name = y.name → zx_G B D cl tys s → (∀ w ∈ B, zx_good w) → va_P D cl w0 s.heap → va_D (fun _ => True) w0 →
    W p l e R s m av.toArray below meth c s.heap [] 0 0 (zx_Q below s D cl w0 kr nr R post) (entryFrame m av.toArray nL)
theorem zx_K.mk {y : MethodName} {ret : Option FieldType} {hs : List (Nat × Nat × Nat × Nat)} {kr nr : Nat} {av : List Value} {w0 : va_W} {post : Outcome → va_W → Prop} (hle : (lg_sl av).length ≤ nL)
    (body : ∀ (p : Program) (e : Env) (s : State) (m : MethodId) (below : List Frame) (meth : Method) (c : Code), zx_C p s m av.toArray c cc nL y.cls B D cl tys (va_A w0 s.heap.size) → meth.sig.returnType = ret → meth.locks = false → c.exceptionTable.toList.map (fun h => (h.startPc, h.endPc, h.handlerPc, h.catchType)) = hs → meth.name = y.name →
      zx_At p l e R s m av.toArray below meth c (zx_Q below s D cl w0 kr nr R post) D cl (va_A w0 s.heap.size) nL (lv_args 0 av) w0 0 0 0 []) : zx_K l B D cl tys y cc nL ret hs kr nr R av w0 post := by
  intro p e s m below meth c hx hb hml hr hlk htab ho hnm hG hB hP hD
  rw [lg_entry_eq]
  exact body p e s m below meth c ⟨hx, hb, hml, ho, hG, hB, fun q h => Or.inr h, fun a cell h1 h2 => zx_notA hP h1 h2⟩ hr hlk htab hnm s.heap [] _ (lv_entry av hle) hP hD.self va_S.rf
def zx_after (T : State) (g : JFrame) : Outcome → State
  | .returned v => T.setTop { g with pc := g.pc + 3, stack := v.toList ++ g.stack }
  | .threw x => (T.setTop g).pushFrame (.throwing x)
set_option maxHeartbeats 1000000 in
/-- a callee's contract, at a call -/
theorem zx_core {T : State} {locs : List Loc} (X : Stand p l e R s m args below meth c T locs kc ks) (C : zx_C p s m args c cc nL own B D cl tys A) (hS : va_S A s.heap T.heap locs) {y : MethodName} {mk : MethodId} {methM : Method} {cM : Code} {bytes : ByteArray} {maxL : Nat} {ret : Option FieldType} {hs : List (Nat × Nat × Nat × Nat)} {kr nr : Nat} {R' : Room} {av : List Value} {wc : va_W} {post : Outcome → va_W → Prop}
    (hn : s.methodNamed? y = some mk) (hm : s.vm.method? mk = some methM) (hcM : methM.code = some cM) (hbM : cM.code = bytes) (hlM : cM.maxLocals = maxL) (hrM : methM.sig.returnType = ret) (hkM : methM.locks = false) (htM : cM.exceptionTable.toList.map (fun h => (h.startPc, h.endPc, h.handlerPc, h.catchType)) = hs) (hpl : plainName y.cls = true)
    (hM : zx_K l B D cl tys y bytes maxL ret hs kr nr R' av wc post) (hPc : va_P D cl wc T.heap) (hDc : va_D (fun _ => True) wc) {g : JFrame} (hg : g.method = m) (hsize : g.locals.size = c.maxLocals) {ig : Instr} (hdg : decode c.code g.pc = .ok (ig, 3))
    (hfr : R'.frames + 1 ≤ R.frames) (hlo : 2 * g.monitorRoom + (g.stack.map fun v => v.category).sum + (maxL + 11) + R'.locals ≤ R.locals) (hce : kc + R'.cells ≤ R.cells) (hsl : ks + R'.slots ≤ R.slots) :
    ∃ (o : Outcome) (T' : State) (L : List Loc) (ws' : va_W), Stand p l e R s m args below meth c T' (locs ++ L) (kc + zx_ck o kr R'.cells) (ks + zx_ck o nr R'.slots) ∧ (∀ q ∈ L, va_A wc T.heap.size q.base) ∧ post o ws' ∧ va_P D cl ws' T'.heap ∧ va_D (va_A wc T.heap.size) ws' ∧ T.heap.size ≤ T'.heap.size ∧ (∀ q : Nat, q < T.heap.size → ¬ va_A wc T.heap.size q → T'.heap[q]? = T.heap[q]?) ∧
      ∀ acts, Steps p.tables e below (doInvoke e (T.setTop g) acts mk av.toArray).1 (zx_after T' g o) := by
  subst hlM
  have hmT : T.vm.method? mk = some methM := by rw [X.warmed.alike.method?]; exact hm
  have hpk : T.plainMethod mk := State.plainMethod.of_named (plainFor_of_name hpl) (X.named hn) hmT
  obtain ⟨Y, hin⟩ := X.into hg hsize hdg av.toArray (R' := R') hmT hcM hkM hpk hfr hlo hce hsl
  have hfc : (T.calling g mk av.toArray).vm.findClass y.cls = some mk.cls := by
    show T.vm.findClass y.cls = some mk.cls
    exact findClass_of_methodNamed (X.named hn)
  have hG : zx_G B D cl tys (T.calling g mk av.toArray) := zx_G.to C.hB (s := s) X.warmed (fun a cell h1 h2 => by
    show T.heap[a]? = some cell
    rw [hS.2.1 a (Array.getElem?_eq_some_iff.mp h1).1 (C.hN a cell h1 h2)]
    exact h1) C.g
  obtain ⟨t, hst, o, hrun, hend, hWt, ⟨L, hsame, hL⟩, ⟨ws', hpost, hP', hD'⟩, hF⟩ := hM p e (T.calling g mk av.toArray) mk (.java g :: below) methM cM C.hx hbM rfl hrM hkM htM hfc (name_of_methodNamed hn hm).1 hG C.hB hPc hDc ((T.setTop g).pushFrame (.java (entryFrame mk av.toArray cM.maxLocals))) rfl Y
  cases o with
  | returned v =>
    obtain ⟨T', X', hW', hB', ht⟩ := X.outOf hg hdg hend hWt hsame
    have hh : t.heap = T'.heap := by rw [ht]; rfl
    refine ⟨.returned v, T', L, ws', X', hL, hpost, hh ▸ hP', hD', hh ▸ hF.1, fun q h1 h2 => by rw [← hh]; exact hF.2 q h1 h2, fun acts => ?_⟩
    rw [hin acts]
    show Steps p.tables e below _ (T'.setTop { g with pc := g.pc + 3, stack := v.toList ++ g.stack })
    rw [← ht]
    exact zx_weaken (mid := [.java g]) hst
  | threw x =>
    obtain ⟨T', X', hW', hB', ht⟩ := X.outOfThrown hg hend hWt hsame
    have hh : t.heap = T'.heap := by rw [ht]; rfl
    refine ⟨.threw x, T', L, ws', X', hL, hpost, hh ▸ hP', hD', hh ▸ hF.1, fun q h1 h2 => by rw [← hh]; exact hF.2 q h1 h2, fun acts => ?_⟩
    rw [hin acts]
    show Steps p.tables e below _ ((T'.setTop g).pushFrame (.throwing x))
    rw [← ht]
    exact zx_weaken (mid := [.java g]) hst
/-- behind a call -/
def zx_Af (p : Program) (l : Launch) (e : Env) (R : Room) (s : State) (m : MethodId) (args : Array Value) (below : List Frame) (meth : Method) (c : Code) (Q : State → Prop) (D : va_G) (cl : List vw_C) (A : Nat → Prop) (nL : Nat) (lv : List (Nat × Value)) (ws : va_W) (kc ks pc : Nat) (st : List Value) : Outcome → Prop
  | .returned v => zx_At p l e R s m args below meth c Q D cl A nL lv ws kc ks (pc + 3) (v.toList ++ st)
  | .threw x => zx_Th p l e R s m args below meth c Q D cl A nL lv ws kc ks pc st x
/-- the words of a callee -/
def zx_cw (s : State) (y : MethodName) (mk : MethodId) (bytes : ByteArray) (maxL : Nat) (ret : Option FieldType) (hs : List (Nat × Nat × Nat × Nat)) : Prop := ∃ (methM : Method) (cM : Code), s.methodNamed? y = some mk ∧ s.vm.method? mk = some methM ∧ methM.code = some cM ∧ cM.code = bytes ∧ cM.maxLocals = maxL ∧ methM.sig.returnType = ret ∧ methM.locks = false ∧ cM.exceptionTable.toList.map (fun h => (h.startPc, h.endPc, h.handlerPc, h.catchType)) = hs ∧ parseMethodDescriptor y.desc = some methM.sig
theorem zx_cw.of {y : MethodName} {bytes : ByteArray} {maxL : Nat} {ret : Option FieldType} (h : (Cond.code y bytes maxL ret).before args s = true) : ∃ mk, zx_cw s y mk bytes maxL ret [] := by
  obtain ⟨mk, hn⟩ := Cond.code_named h
  obtain ⟨meth, c, h1, h2, h3, h4, h5, h6, h7, h8⟩ := Cond.code_spec hn h
  exact ⟨mk, meth, c, hn, h1, h2, h3, h4, h5, h6, by rw [Array.isEmpty_iff.mp h7]; rfl, h8⟩
theorem zx_cw.ofW {y : MethodName} {bytes : ByteArray} {maxL : Nat} {ret : Option FieldType} {hs : List (Nat × Nat × Nat × Nat)} (h : (Cond.codeWith y bytes maxL ret hs).before args s = true) : ∃ mk, zx_cw s y mk bytes maxL ret hs := by
  obtain ⟨mk, meth, c, hn, h1, h2, h3, h4, h5, h6, h7, h8⟩ := Cond.codeWith_spec h
  exact ⟨mk, meth, c, hn, h1, h2, h3, h4, h6, h7, h5, h8⟩
/-- a call whose first step (the linking) is known -/
theorem zx_go (C : zx_C p s m args c cc nL own B D cl tys A) {y : MethodName} {mk : MethodId} {bytes : ByteArray} {maxL : Nat} {ret : Option FieldType} {hs : List (Nat × Nat × Nat × Nat)} {kr nr : Nat} {R' : Room} {av : List Value} {wc wr : va_W} {post : Outcome → va_W → Prop} {ig : Instr} {st0 : List Value} (hw : zx_cw s y mk bytes maxL ret hs) (hpl : plainName y.cls = true)
    (hM : zx_K l B D cl tys y bytes maxL ret hs kr nr R' av wc post) (isC isR : List Nat) (hC : isC.map (fun i => ws[i]?) = wc.map some) (hR : isR.map (fun i => ws[i]?) = wr.map some) (hnC : va_nd isC = true) (hnR : va_nd isR = true) (hdis : ∀ i ∈ isR, i ∉ isC)
    (hfr : R'.frames + 1 ≤ R.frames) (hlo : (st.map fun v => v.category).sum + (maxL + 11) + R'.locals ≤ R.locals) (hce : kc + R'.cells ≤ R.cells) (hsl : ks + R'.slots ≤ R.slots) (hd : decode cc pc = .ok (ig, 3))
    (hstep : ∀ (T : State) (locs : List Loc) (ls : Array Slot), va_P D cl ws T.heap → Stand p l e R s m args below meth c T locs kc ks → ∃ vm', Stand p l e R s m args below meth c (T.setVm vm') locs kc ks ∧ ∀ target, (∀ acts, Steps p.tables e below (doInvoke e ((T.setVm vm').setTop (F0 m pc ls st)) acts mk av.toArray).1 target) → Steps p.tables e below (T.setTop (F0 m pc ls st0)) target)
    (kk : ∀ (o : Outcome) (w1 : va_W), post o w1 → zx_Af p l e R s m args below meth c Q D cl A nL lv (wr ++ w1) (kc + zx_ck o kr R'.cells) (ks + zx_ck o nr R'.slots) pc st o) : zx_At p l e R s m args below meth c Q D cl A nL lv ws kc ks pc st0 := by
  intro H locs ls hl hP hD hS T hT X
  subst hT
  obtain ⟨vm', X1, hgo⟩ := hstep T locs ls hP X
  obtain ⟨methM, cM, hn, hm, hcM, hbM, hlM, hrM, hkM, htM, -⟩ := hw
  have hPc : va_P D cl wc T.heap := hP.sub isC (by
    have h1 : isC.filterMap (fun i => ws[i]?) = (isC.map (fun i => ws[i]?)).filterMap id := by rw [List.filterMap_map]; rfl
    rw [h1, hC, List.filterMap_map]
    exact List.filterMap_some)
  have hDc := hD.sub isC hnC hC
  have hFc := va_free (wc := wc) hD hS C.hA isC hC
  obtain ⟨o, T', L, w1, X', hL, hpost, hP1, hD1, hz, hk, hst⟩ := zx_core X1 C (show va_S A s.heap (T.setVm vm').heap locs from hS) hn hm hcM hbM hlM hrM hkM htM hpl hM (show va_P D cl wc (T.setVm vm').heap from hPc) (hDc.weaken (fun _ _ _ _ => trivial)) (g := F0 m pc ls st) rfl (by rw [C.hml]; exact hl.1) (by rw [C.hb]; exact hd) hfr (by show 2 * 0 + (st.map fun v => v.category).sum + (maxL + 11) + R'.locals ≤ R.locals; omega) hce hsl
  obtain ⟨hP2, hD2⟩ := va_join (wr := wr) (w1 := w1) hP hD isC isR hC hR hnR hdis hk hFc hP1 hD1
  have hS2 : va_S A s.heap T'.heap (locs ++ L) := ⟨Nat.le_trans hS.1 hz, fun q h1 h2 => by rw [hk q (Nat.lt_of_lt_of_le h1 hS.1) (fun z => h2 (hFc q z))]; exact hS.2.1 q h1 h2, fun q hq => by
    rcases List.mem_append.mp hq with h | h
    · exact hS.2.2 q h
    · exact hFc _ (hL q h)⟩
  have hk9 := kk o w1 hpost
  cases o with
  | returned v =>
    obtain ⟨t, a1, b1⟩ := hk9 T'.heap (locs ++ L) ls hl hP2 hD2 hS2 T' rfl X'
    exact ⟨t, (hgo _ hst).trans a1, b1⟩
  | threw x =>
    obtain ⟨t, a1, b1⟩ := hk9 T'.heap (locs ++ L) ls hl hP2 hD2 hS2 T' rfl X'
    exact ⟨t, (hgo _ hst).trans a1, b1⟩
theorem zx_ri {r : Int32} {kr bk nr bn k2 n2 : Nat} (e1 : kc + kr = k2) (e2 : ks + nr = n2) (h : zx_At p l e R s m args below meth c Q D cl A nL lv ws k2 n2 (pc + 3) (.int r :: st)) : zx_Af p l e R s m args below meth c Q D cl A nL lv ws (kc + zx_ck (.returned (some (.int r))) kr bk) (ks + zx_ck (.returned (some (.int r))) nr bn) pc st (.returned (some (.int r))) := by subst e1; subst e2; exact h
theorem zx_rl {r : Int64} {kr bk nr bn k2 n2 : Nat} (e1 : kc + kr = k2) (e2 : ks + nr = n2) (h : zx_At p l e R s m args below meth c Q D cl A nL lv ws k2 n2 (pc + 3) (.long r :: st)) : zx_Af p l e R s m args below meth c Q D cl A nL lv ws (kc + zx_ck (.returned (some (.long r))) kr bk) (ks + zx_ck (.returned (some (.long r))) nr bn) pc st (.returned (some (.long r))) := by subst e1; subst e2; exact h
theorem zx_rv {kr bk nr bn k2 n2 : Nat} (e1 : kc + kr = k2) (e2 : ks + nr = n2) (h : zx_At p l e R s m args below meth c Q D cl A nL lv ws k2 n2 (pc + 3) st) : zx_Af p l e R s m args below meth c Q D cl A nL lv ws (kc + zx_ck (.returned none) kr bk) (ks + zx_ck (.returned none) nr bn) pc st (.returned none) := by subst e1; subst e2; exact h
theorem zx_rt {x : Nat} {kr bk nr bn k2 n2 : Nat} (e1 : kc + bk = k2) (e2 : ks + bn = n2) (h : zx_Th p l e R s m args below meth c Q D cl A nL lv ws k2 n2 pc st x) : zx_Af p l e R s m args below meth c Q D cl A nL lv ws (kc + zx_ck (.threw x) kr bk) (ks + zx_ck (.threw x) nr bn) pc st (.threw x) := by subst e1; subst e2; exact h
/-- a contract that says less -/
theorem zx_K.mono {y : MethodName} {ret : Option FieldType} {hs : List (Nat × Nat × Nat × Nat)} {kr nr : Nat} {av : List Value} {w0 : va_W} {post post' : Outcome → va_W → Prop} (h : zx_K l B D cl tys y cc nL ret hs kr nr R av w0 post) (hp : ∀ o w, post o w → post' o w) : zx_K l B D cl tys y cc nL ret hs kr nr R av w0 post' := by
  intro p e s m below meth c h1 h2 h3 h4 h5 h6 h7 h8 h9 h10 h11 h12 T hT X
  obtain ⟨t, a1, o, b1, b2, b3, b4, ⟨w1, b5, b6⟩, b7⟩ := h p e s m below meth c h1 h2 h3 h4 h5 h6 h7 h8 h9 h10 h11 h12 T hT X
  exact ⟨t, a1, o, b1, b2, b3, b4, ⟨w1, hp o w1 b5, b6⟩, b7⟩
/-- a method without handlers -/
theorem zx_noTab {c : Code} (h : c.exceptionTable.toList.map (fun h => (h.startPc, h.endPc, h.handlerPc, h.catchType)) = []) (pc : Nat) : ∀ h ∈ c.exceptionTable.toList, covers h pc = false := by
  rw [List.map_eq_nil_iff.mp h]
  intro x hx
  cases hx
end ZX

