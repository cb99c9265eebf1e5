section
-- ===== PART A: goes FIRST, ahead of the names: the tables' words, and 'selects' of the private methods out of them =====
/-- a private method of a class that the tables say can be made, by its rows of tables_1 -/
def lw_okq (q : MethodName × Nat) : Prop := (q.1.cls ≠ "java/lang/invoke/MethodHandle" ∧ q.1.cls ≠ "java/lang/invoke/VarHandle") ∧ Cond.instantiable q.1.cls q.2 ∈ tables_1 ∧ Cond.privateMethod q.1 ∈ tables_1 ∧ Cond.instanceMethod q.1 ∈ tables_1
theorem lw_p0 : lw_okq (⟨"java/lang/Throwable", "fillInStackTrace", "(I)Ljava/lang/Throwable;"⟩, 6) := ⟨⟨by decide +kernel, by decide +kernel⟩, List.mem_of_getElem? (i := 206) (by decide +kernel), List.mem_of_getElem? (i := 204) (by decide +kernel), List.mem_of_getElem? (i := 205) (by decide +kernel)⟩
theorem lw_p1 : lw_okq (⟨"LzwBox", "addToTape", "(I)V"⟩, 7) := ⟨⟨by decide +kernel, by decide +kernel⟩, List.mem_of_getElem? (i := 26) (by decide +kernel), List.mem_of_getElem? (i := 235) (by decide +kernel), List.mem_of_getElem? (i := 236) (by decide +kernel)⟩
theorem lw_p2 : lw_okq (⟨"LzwBox$Unpacker", "takeCode", "(I)V"⟩, 7) := ⟨⟨by decide +kernel, by decide +kernel⟩, List.mem_of_getElem? (i := 34) (by decide +kernel), List.mem_of_getElem? (i := 299) (by decide +kernel), List.mem_of_getElem? (i := 300) (by decide +kernel)⟩
theorem lw_p3 : lw_okq (⟨"LzwBox$Unpacker", "repeat", "(II)V"⟩, 7) := ⟨⟨by decide +kernel, by decide +kernel⟩, List.mem_of_getElem? (i := 34) (by decide +kernel), List.mem_of_getElem? (i := 334) (by decide +kernel), List.mem_of_getElem? (i := 335) (by decide +kernel)⟩
theorem lw_p4 : lw_okq (⟨"LzwBox", "takeSpareAsResult", "(I)V"⟩, 7) := ⟨⟨by decide +kernel, by decide +kernel⟩, List.mem_of_getElem? (i := 26) (by decide +kernel), List.mem_of_getElem? (i := 344) (by decide +kernel), List.mem_of_getElem? (i := 345) (by decide +kernel)⟩
theorem lw_p5 : lw_okq (⟨"LzwBox", "tapeIsIndices", "(I)Z"⟩, 7) := ⟨⟨by decide +kernel, by decide +kernel⟩, List.mem_of_getElem? (i := 26) (by decide +kernel), List.mem_of_getElem? (i := 355) (by decide +kernel), List.mem_of_getElem? (i := 356) (by decide +kernel)⟩
theorem lw_p6 : lw_okq (⟨"LzwBox$Packer", "writeBeginning", "()V"⟩, 5) := ⟨⟨by decide +kernel, by decide +kernel⟩, List.mem_of_getElem? (i := 87) (by decide +kernel), List.mem_of_getElem? (i := 371) (by decide +kernel), List.mem_of_getElem? (i := 372) (by decide +kernel)⟩
theorem lw_p7 : lw_okq (⟨"LzwBox$BitSink", "putByte", "()V"⟩, 4) := ⟨⟨by decide +kernel, by decide +kernel⟩, List.mem_of_getElem? (i := 95) (by decide +kernel), List.mem_of_getElem? (i := 380) (by decide +kernel), List.mem_of_getElem? (i := 381) (by decide +kernel)⟩
theorem lw_p8 : lw_okq (⟨"LzwBox$Packer", "childOf", "(II)I"⟩, 5) := ⟨⟨by decide +kernel, by decide +kernel⟩, List.mem_of_getElem? (i := 87) (by decide +kernel), List.mem_of_getElem? (i := 653) (by decide +kernel), List.mem_of_getElem? (i := 654) (by decide +kernel)⟩
theorem lw_p9 : lw_okq (⟨"LzwBox$Packer", "writeRow", "(I)V"⟩, 5) := ⟨⟨by decide +kernel, by decide +kernel⟩, List.mem_of_getElem? (i := 87) (by decide +kernel), List.mem_of_getElem? (i := 657) (by decide +kernel), List.mem_of_getElem? (i := 658) (by decide +kernel)⟩
theorem lw_p10 : lw_okq (⟨"LzwBox$Packer", "addChild", "(II)V"⟩, 5) := ⟨⟨by decide +kernel, by decide +kernel⟩, List.mem_of_getElem? (i := 87) (by decide +kernel), List.mem_of_getElem? (i := 663) (by decide +kernel), List.mem_of_getElem? (i := 664) (by decide +kernel)⟩
theorem lw_p11 : lw_okq (⟨"LzwBoxModel", "fail", "(I)I"⟩, 21) := ⟨⟨by decide +kernel, by decide +kernel⟩, List.mem_of_getElem? (i := 696) (by decide +kernel), List.mem_of_getElem? (i := 778) (by decide +kernel), List.mem_of_getElem? (i := 779) (by decide +kernel)⟩
theorem lw_p12 : lw_okq (⟨"LzwBoxModel", "unrows", "(I)V"⟩, 21) := ⟨⟨by decide +kernel, by decide +kernel⟩, List.mem_of_getElem? (i := 696) (by decide +kernel), List.mem_of_getElem? (i := 782) (by decide +kernel), List.mem_of_getElem? (i := 783) (by decide +kernel)⟩
theorem lw_p13 : lw_okq (⟨"LzwBoxModel", "bits", "(I)I"⟩, 21) := ⟨⟨by decide +kernel, by decide +kernel⟩, List.mem_of_getElem? (i := 696) (by decide +kernel), List.mem_of_getElem? (i := 786) (by decide +kernel), List.mem_of_getElem? (i := 787) (by decide +kernel)⟩
theorem lw_p14 : lw_okq (⟨"LzwBoxModel", "can", "(Z)V"⟩, 21) := ⟨⟨by decide +kernel, by decide +kernel⟩, List.mem_of_getElem? (i := 696) (by decide +kernel), List.mem_of_getElem? (i := 790) (by decide +kernel), List.mem_of_getElem? (i := 791) (by decide +kernel)⟩
theorem lw_p15 : lw_okq (⟨"LzwBoxModel", "firstOf", "(I)I"⟩, 21) := ⟨⟨by decide +kernel, by decide +kernel⟩, List.mem_of_getElem? (i := 696) (by decide +kernel), List.mem_of_getElem? (i := 804) (by decide +kernel), List.mem_of_getElem? (i := 805) (by decide +kernel)⟩
def lw_privs_1 : List (MethodName × Nat) := [(⟨"java/lang/Throwable", "fillInStackTrace", "(I)Ljava/lang/Throwable;"⟩, 6), (⟨"LzwBox", "addToTape", "(I)V"⟩, 7), (⟨"LzwBox$Unpacker", "takeCode", "(I)V"⟩, 7), (⟨"LzwBox$Unpacker", "repeat", "(II)V"⟩, 7), (⟨"LzwBox", "takeSpareAsResult", "(I)V"⟩, 7), (⟨"LzwBox", "tapeIsIndices", "(I)Z"⟩, 7), (⟨"LzwBox$Packer", "writeBeginning", "()V"⟩, 5), (⟨"LzwBox$BitSink", "putByte", "()V"⟩, 4), (⟨"LzwBox$Packer", "childOf", "(II)I"⟩, 5), (⟨"LzwBox$Packer", "writeRow", "(I)V"⟩, 5), (⟨"LzwBox$Packer", "addChild", "(II)V"⟩, 5), (⟨"LzwBoxModel", "fail", "(I)I"⟩, 21), (⟨"LzwBoxModel", "unrows", "(I)V"⟩, 21), (⟨"LzwBoxModel", "bits", "(I)I"⟩, 21), (⟨"LzwBoxModel", "can", "(Z)V"⟩, 21), (⟨"LzwBoxModel", "firstOf", "(I)I"⟩, 21)]
theorem lw_r1 : ∀ q ∈ lw_privs_1, lw_okq q := List.forall_mem_cons.mpr ⟨lw_p0, List.forall_mem_cons.mpr ⟨lw_p1, List.forall_mem_cons.mpr ⟨lw_p2, List.forall_mem_cons.mpr ⟨lw_p3, List.forall_mem_cons.mpr ⟨lw_p4, List.forall_mem_cons.mpr ⟨lw_p5, List.forall_mem_cons.mpr ⟨lw_p6, List.forall_mem_cons.mpr ⟨lw_p7, List.forall_mem_cons.mpr ⟨lw_p8, List.forall_mem_cons.mpr ⟨lw_p9, List.forall_mem_cons.mpr ⟨lw_p10, List.forall_mem_cons.mpr ⟨lw_p11, List.forall_mem_cons.mpr ⟨lw_p12, List.forall_mem_cons.mpr ⟨lw_p13, List.forall_mem_cons.mpr ⟨lw_p14, List.forall_mem_cons.mpr ⟨lw_p15, fun _ h => absurd h List.not_mem_nil⟩⟩⟩⟩⟩⟩⟩⟩⟩⟩⟩⟩⟩⟩⟩⟩
theorem lw_p16 : lw_okq (⟨"LzwBoxModel", "giveRow", "(I)V"⟩, 21) := ⟨⟨by decide +kernel, by decide +kernel⟩, List.mem_of_getElem? (i := 696) (by decide +kernel), List.mem_of_getElem? (i := 808) (by decide +kernel), List.mem_of_getElem? (i := 809) (by decide +kernel)⟩
theorem lw_p17 : lw_okq (⟨"LzwBoxModel", "pack", "(II)V"⟩, 21) := ⟨⟨by decide +kernel, by decide +kernel⟩, List.mem_of_getElem? (i := 696) (by decide +kernel), List.mem_of_getElem? (i := 820) (by decide +kernel), List.mem_of_getElem? (i := 821) (by decide +kernel)⟩
theorem lw_p18 : lw_okq (⟨"LzwBoxModel", "begin", "(I)V"⟩, 21) := ⟨⟨by decide +kernel, by decide +kernel⟩, List.mem_of_getElem? (i := 696) (by decide +kernel), List.mem_of_getElem? (i := 824) (by decide +kernel), List.mem_of_getElem? (i := 825) (by decide +kernel)⟩
theorem lw_p19 : lw_okq (⟨"LzwBoxModel", "putBits", "(II)V"⟩, 21) := ⟨⟨by decide +kernel, by decide +kernel⟩, List.mem_of_getElem? (i := 696) (by decide +kernel), List.mem_of_getElem? (i := 828) (by decide +kernel), List.mem_of_getElem? (i := 829) (by decide +kernel)⟩
theorem lw_p20 : lw_okq (⟨"LzwBoxModel", "flush", "()V"⟩, 21) := ⟨⟨by decide +kernel, by decide +kernel⟩, List.mem_of_getElem? (i := 696) (by decide +kernel), List.mem_of_getElem? (i := 832) (by decide +kernel), List.mem_of_getElem? (i := 833) (by decide +kernel)⟩
theorem lw_p21 : lw_okq (⟨"LzwBoxModel", "put", "(I)V"⟩, 21) := ⟨⟨by decide +kernel, by decide +kernel⟩, List.mem_of_getElem? (i := 696) (by decide +kernel), List.mem_of_getElem? (i := 836) (by decide +kernel), List.mem_of_getElem? (i := 837) (by decide +kernel)⟩
theorem lw_p22 : lw_okq (⟨"LzwBoxModel", "emit", "(I)V"⟩, 21) := ⟨⟨by decide +kernel, by decide +kernel⟩, List.mem_of_getElem? (i := 696) (by decide +kernel), List.mem_of_getElem? (i := 840) (by decide +kernel), List.mem_of_getElem? (i := 841) (by decide +kernel)⟩
def lw_privs_2 : List (MethodName × Nat) := [(⟨"LzwBoxModel", "giveRow", "(I)V"⟩, 21), (⟨"LzwBoxModel", "pack", "(II)V"⟩, 21), (⟨"LzwBoxModel", "begin", "(I)V"⟩, 21), (⟨"LzwBoxModel", "putBits", "(II)V"⟩, 21), (⟨"LzwBoxModel", "flush", "()V"⟩, 21), (⟨"LzwBoxModel", "put", "(I)V"⟩, 21), (⟨"LzwBoxModel", "emit", "(I)V"⟩, 21)]
theorem lw_r2 : ∀ q ∈ lw_privs_2, lw_okq q := List.forall_mem_cons.mpr ⟨lw_p16, List.forall_mem_cons.mpr ⟨lw_p17, List.forall_mem_cons.mpr ⟨lw_p18, List.forall_mem_cons.mpr ⟨lw_p19, List.forall_mem_cons.mpr ⟨lw_p20, List.forall_mem_cons.mpr ⟨lw_p21, List.forall_mem_cons.mpr ⟨lw_p22, fun _ h => absurd h List.not_mem_nil⟩⟩⟩⟩⟩⟩⟩
def lw_privs : List (MethodName × Nat) := lw_privs_1 ++ (lw_privs_2)
def lw_tbl : List Cond := k2_sels lw_privs ++ tables_1
theorem lw_privs_ok : ∀ q ∈ lw_privs, lw_okq q := by
  show ∀ q ∈ lw_privs_1 ++ (lw_privs_2), lw_okq q
  exact List.forall_mem_append.mpr ⟨lw_r1, lw_r2⟩
end
section
/-! ===== the layer zx: a method's body walked over the world's cells; contracts that return or throw ===== -/
/-- a word that holds of warmer tables too, whatever the arguments -/
def zx_good (w : Cond) : Prop := ∀ (s U : State), s.WarmedH U.vm → (∀ a : Array Value, w.before a s = true) → ∀ a : Array Value, w.before a U = true
def zx_gw : Cond → Bool
  | .fieldLinkNest _ _ _ _ _ _ => true
  | .methodLinkNest _ _ _ _ => true
  | .not (.castable _ _) => true
  | .stringRef _ _ _ => true
  | .castable _ _ => true
  | .declares _ => true
  | w => goodWord w
theorem zx_gw_ok {w : Cond} (h : zx_gw w = true) : zx_good w := by
  have plain : goodWord w = true → zx_good w := fun h s U hW hs a => word_at hW (good_of_word h) (hs #[])
  unfold zx_gw at h
  split at h
  · intro s U hW hs a
    exact va_Nw.use rfl (va_Nw.warmF hW (va_Nw.of rfl (hs #[])))
  · intro s U hW hs a
    exact va_Nw.use rfl (va_Nw.warmM hW (va_Nw.of rfl (hs #[])))
  · intro s U hW hs a
    obtain ⟨c1, c2, h1, h2, h3⟩ := va_Nc.moved hW.alike (va_Nc.of (hs #[]))
    simp [Cond.before, Cond.holds, Cond.value, h1, h2, h3]
  · intro s U hW hs a
    rename_i own k tx
    have h0 := hs #[]
    cases hc : s.vm.findClass own with
    | none => simp [Cond.before, Cond.holds, Cond.value, hc] at h0
    | some cur =>
      obtain ⟨k9, cf9, i9, a9, -, -, -, -, -, hev⟩ := Cond.stringRef_spec hc h0
      exact (vk_R.warm hW ⟨h0, hev⟩).1
  · intro s U hW hs a
    obtain ⟨c1, c2, h1, h2, h3⟩ := Cond.castable_spec (hs #[])
    have g1 := h1
    have g2 := h2
    rw [← hW.alike.findClass] at g1 g2
    have g3 := h3
    rw [← hW.alike.assignable] at g3
    simp [Cond.before, Cond.holds, Cond.value, g1, g2, g3]
  · intro s U hW hs a
    rename_i x9
    obtain ⟨r0, r, h1, h2, h3, h4⟩ := Cond.declares_spec (hs #[])
    have g1 : U.methodNamed? x9 = some r0 := by
      show (s.setVm U.vm).methodNamed? x9 = some r0
      rw [State.methodNamed?_setVm hW.alike]; exact h1
    have g2 : U.vm.method? r0 = some r := by rw [hW.alike.method?]; exact h2
    simp [Cond.before, Cond.holds, Cond.value, g1, g2, h3, h4]
  · exact plain h
/-- what nobody writes: the two statics of Throwable that a new exception reads -/
def zx_L (C n d : String) (U : State) : Prop := ∃ (c : ClassId) (k : Class) (i : Nat) (f : Field) (a : Nat) (cell : Cell), U.vm.findClass C = some c ∧ U.fieldFound? C n d = some (c, k, i, f) ∧ f.isStatic = true ∧ k.statics = some a ∧ U.heap[a]? = some cell ∧ cell.vm.isStatics = true ∧ cell.cls = c ∧ f.slot < cell.slots.size ∧ k.staticTypes[f.slot]? = some f.type
def zx_S1 (n d : String) (U : State) : Prop := va_Zq Bundle.tN n d (fun _ => False) U U.heap ∧ zx_L Bundle.tN n d U
def zx_S (U : State) : Prop := zx_S1 "UNASSIGNED_STACK" Bundle.steD U ∧ zx_S1 "SUPPRESSED_SENTINEL" Bundle.listD U
theorem zx_Lto {C n d : String} {s U : State} (hW : s.WarmedH U.vm) (hst : ∀ (a : Nat) (cell : Cell), s.heap[a]? = some cell → cell.vm.isStatics = true → U.heap[a]? = some cell) (h : zx_L C n d s) : zx_L C n d U := by
  obtain ⟨c, k, i, f, a, cell, h1, h2, h3, h4, h5, h6, h7, h8, h9⟩ := h
  obtain ⟨k', g1, g2⟩ := State.fieldFound?_setVm hW.alike h2
  exact ⟨c, k', i, f, a, cell, by rw [hW.alike.findClass]; exact h1, g1, h3, by rw [g2]; exact h4, hst a cell h5 h6, h6, h7, h8, by rw [g2]; exact h9⟩
theorem zx_Zto {C n d : String} {v : Value} {s U : State} (hW : s.WarmedH U.vm) (hst : ∀ (a : Nat) (cell : Cell), s.heap[a]? = some cell → cell.vm.isStatics = true → U.heap[a]? = some cell) (h : va_Z C n d v (fun _ => False) s s.heap) : va_Z C n d v (fun _ => False) U U.heap := by
  obtain ⟨cf, kf, fi, f, a, cell, h1, h2, h3, h4, h5, h6, h7, h8⟩ := va_Z.moved hW.alike h
  exact ⟨cf, kf, fi, f, a, cell, h1, h2, h3, h4, hst a cell h5 h6, h6, h7, h8⟩
theorem zx_Zqto {C n d : String} {s U : State} (hW : s.WarmedH U.vm) (hst : ∀ (a : Nat) (cell : Cell), s.heap[a]? = some cell → cell.vm.isStatics = true → U.heap[a]? = some cell) (h : va_Zq C n d (fun _ => False) s s.heap) : va_Zq C n d (fun _ => False) U U.heap := by
  rcases h with h | ⟨t, h⟩
  · exact Or.inl (zx_Zto hW hst h)
  · exact Or.inr ⟨t, zx_Zto hW hst h⟩
/-- what holds of the machine at every call: the words B, the classes' numbers, the statics -/
def zx_G (B : List Cond) (D : va_G) (cl : List vw_C) (tys : List (ClassId × FieldType)) (U : State) : Prop := (∀ w ∈ B, ∀ a : Array Value, w.before a U = true) ∧ va_K D cl tys U ∧ zx_S U
theorem zx_G.to {B : List Cond} {D : va_G} {cl : List vw_C} {tys : List (ClassId × FieldType)} {s U : State} (hB : ∀ w ∈ B, zx_good w) (hW : s.WarmedH U.vm) (hst : ∀ (a : Nat) (cell : Cell), s.heap[a]? = some cell → cell.vm.isStatics = true → U.heap[a]? = some cell) (h : zx_G B D cl tys s) : zx_G B D cl tys U :=
  ⟨fun w hw a => hB w hw s U hW (h.1 w hw) a, va_K.moved hW.alike h.2.1, ⟨zx_Zqto hW hst h.2.2.1.1, zx_Lto hW hst h.2.2.1.2⟩, zx_Zqto hW hst h.2.2.2.1, zx_Lto hW hst h.2.2.2.2⟩
theorem zx_weaken {tb : Tables} {e : Env} {mid below : List Frame} {a b : State} (h : Steps tb e (mid ++ below) a b) : Steps tb e below a b := by
  obtain ⟨n, hn, w⟩ := h
  exact ⟨n, hn, fun k hk => (w k hk).weaken⟩
/-- no statics cell is a cell of the world -/
theorem zx_notA {D : va_G} {cl : List vw_C} {ws : va_W} {H : Heap} (hP : va_P D cl ws H) {a : Nat} {cell : Cell} (h : H[a]? = some cell) (hs : cell.vm.isStatics = true) : ¬ va_A ws H.size a := by
  intro hA
  rcases hA with ⟨k, e, hk⟩ | hA
  · have h1 := hP k (a, e) hk
    cases e with
    | inl x =>
      have h2 : H[a]? = some (vp_cell x.1 x.2) := h1
      rw [h] at h2
      have h3 : cell = vp_cell x.1 x.2 := Option.some.inj h2
      rw [h3] at hs
      obtain ⟨cA, n, f⟩ := x
      rcases f with f | f | f | f | f <;> exact absurd hs (by simp [vp_cell, arrV, VmData.isStatics])
    | inr o =>
      obtain ⟨r, -, cell2, h2, -, h3, -⟩ := h1
      have h4 : cell2 = cell := Option.some.inj (h2.symm.trans h)
      rw [h4] at h3
      rw [h3] at hs
      exact absurd hs (by simp [VmData.isStatics])
  · have := (Array.getElem?_eq_some_iff.mp h).1
    omega
section ZX
variable {p : Program} {l : Launch} {e : Env} {R : Room} {s : State} {m : MethodId} {args : Array Value} {below : List Frame} {meth : Method} {c : Code} {Q : State → Prop}
variable {cc : ByteArray} {nL : Nat} {own : String} {B : List Cond} {D : va_G} {cl : List vw_C} {tys : List (ClassId × FieldType)} {A : Nat → Prop}
variable {lv lv' : List (Nat × Value)} {ws ws' : va_W} {kc ks pc : Nat} {st : List Value}
/-- what stays while a body is walked -/
def zx_C (p : Program) (s : State) (m : MethodId) (args : Array Value) (c : Code) (cc : ByteArray) (nL : Nat) (own : String) (B : List Cond) (D : va_G) (cl : List vw_C) (tys : List (ClassId × FieldType)) (A : Nat → Prop) : Prop :=
  p.tables.exec = Jvm.exec ∧ c.code = cc ∧ c.maxLocals = nL ∧ s.vm.findClass own = some m.cls ∧ zx_G B D cl tys s ∧ (∀ w ∈ B, zx_good w) ∧ (∀ q, s.heap.size ≤ q → A q) ∧ ∀ (a : Nat) (cell : Cell), s.heap[a]? = some cell → cell.vm.isStatics = true → ¬ A a
theorem zx_C.hx (C : zx_C p s m args c cc nL own B D cl tys A) : p.tables.exec = Jvm.exec := C.1
theorem zx_C.hb (C : zx_C p s m args c cc nL own B D cl tys A) : c.code = cc := C.2.1
theorem zx_C.hml (C : zx_C p s m args c cc nL own B D cl tys A) : c.maxLocals = nL := C.2.2.1
theorem zx_C.ho (C : zx_C p s m args c cc nL own B D cl tys A) : s.vm.findClass own = some m.cls := C.2.2.2.1
theorem zx_C.g (C : zx_C p s m args c cc nL own B D cl tys A) : zx_G B D cl tys s := C.2.2.2.2.1
theorem zx_C.hB (C : zx_C p s m args c cc nL own B D cl tys A) : ∀ w ∈ B, zx_good w := C.2.2.2.2.2.1
theorem zx_C.hA (C : zx_C p s m args c cc nL own B D cl tys A) : ∀ q, s.heap.size ≤ q → A q := C.2.2.2.2.2.2.1
theorem zx_C.hN (C : zx_C p s m args c cc nL own B D cl tys A) : ∀ (a : Nat) (cell : Cell), s.heap[a]? = some cell → cell.vm.isStatics = true → ¬ A a := C.2.2.2.2.2.2.2
theorem zx_C.w (C : zx_C p s m args c cc nL own B D cl tys A) {w : Cond} (h : w ∈ B) : w.before args s = true := C.g.1 w h args
theorem zx_C.ts (C : zx_C p s m args c cc nL own B D cl tys A) : ∀ w ∈ B, w.before args s = true := fun w h => C.g.1 w h args
theorem zx_C.k (C : zx_C p s m args c cc nL own B D cl tys A) : va_K D cl tys s := C.g.2.1
/-- the machine stands at pc, with these locals, these cells of the world, this operand stack: it comes to Q -/
def zx_At (p : Program) (l : Launch) (e : Env) (R : Room) (s : State) (m : MethodId) (args : Array Value) (below : List Frame) (meth : Method) (c : Code) (Q : State → Prop) (D : va_G) (cl : List vw_C) (A : Nat → Prop) (nL : Nat) (lv : List (Nat × Value)) (ws : va_W) (kc ks pc : Nat) (st : List Value) : Prop :=
  ∀ (H : Heap) (locs : List Loc) (ls : Array Slot), lv_has ls nL lv → va_P D cl ws H → va_D A ws → va_S A s.heap H locs → W p l e R s m args below meth c H locs kc ks Q (F0 m pc ls st)
/-- an exception is on its way at pc -/
def zx_Th (p : Program) (l : Launch) (e : Env) (R : Room) (s : State) (m : MethodId) (args : Array Value) (below : List Frame) (meth : Method) (c : Code) (Q : State → Prop) (D : va_G) (cl : List vw_C) (A : Nat → Prop) (nL : Nat) (lv : List (Nat × Value)) (ws : va_W) (kc ks pc : Nat) (st : List Value) (x : Nat) : Prop :=
  ∀ (H : Heap) (locs : List Loc) (ls : Array Slot), lv_has ls nL lv → va_P D cl ws H → va_D A ws → va_S A s.heap H locs → ∀ T : State, T.heap = H → Stand p l e R s m args below meth c T locs kc ks → ∃ t, Steps p.tables e below ((T.setTop (F0 m pc ls st)).pushFrame (.throwing x)) t ∧ Q t
/-- fewer locals, in another order -/
theorem zx_lv (js : List Nat) (hl : lv_pick lv js = lv') (h : zx_At p l e R s m args below meth c Q D cl A nL lv' ws kc ks pc st) : zx_At p l e R s m args below meth c Q D cl A nL lv ws kc ks pc st := fun H locs ls hl0 hP hD hS => h H locs ls (lv_sub hl0 js hl) hP hD hS
/-- fewer cells, in another order -/
theorem zx_ws (is : List Nat) (hn : va_nd is = true) (hs : is.map (fun i => ws[i]?) = ws'.map some) (h : zx_At p l e R s m args below meth c Q D cl A nL lv ws' kc ks pc st) : zx_At p l e R s m args below meth c Q D cl A nL lv ws kc ks pc st := fun H locs ls hl hP hD hS => h H locs ls hl (hP.sub is (by
    have h1 : is.filterMap (fun i => ws[i]?) = (is.map (fun i => ws[i]?)).filterMap id := by rw [List.filterMap_map]; rfl
    rw [h1, hs, List.filterMap_map]
    exact List.filterMap_some)) (hD.sub is hn hs) hS
theorem zx_wide {kc2 ks2 : Nat} (h1 : kc ≤ kc2) (h2 : ks ≤ ks2) (h : zx_At p l e R s m args below meth c Q D cl A nL lv ws kc2 ks2 pc st) : zx_At p l e R s m args below meth c Q D cl A nL lv ws kc ks pc st := fun H locs ls hl hP hD hS => W.widen h1 h2 (h H locs ls hl hP hD hS)
theorem zx_topi {x : Int32} (h : ∀ y : Int32, y = x → zx_At p l e R s m args below meth c Q D cl A nL lv ws kc ks pc (.int y :: st)) : zx_At p l e R s m args below meth c Q D cl A nL lv ws kc ks pc (.int x :: st) := h x rfl
theorem zx_topl {x : Int64} (h : ∀ y : Int64, y = x → zx_At p l e R s m args below meth c Q D cl A nL lv ws kc ks pc (.long y :: st)) : zx_At p l e R s m args below meth c Q D cl A nL lv ws kc ks pc (.long x :: st) := h x rfl
/-- the number on the stack by another name -/
theorem zx_seti {x : Int32} (y : Int32) (e9 : x = y) (h : zx_At p l e R s m args below meth c Q D cl A nL lv ws kc ks pc (.int y :: st)) : zx_At p l e R s m args below meth c Q D cl A nL lv ws kc ks pc (.int x :: st) := e9 ▸ h
theorem zx_setl {x : Int64} (y : Int64) (e9 : x = y) (h : zx_At p l e R s m args below meth c Q D cl A nL lv ws kc ks pc (.long y :: st)) : zx_At p l e R s m args below meth c Q D cl A nL lv ws kc ks pc (.long x :: st) := e9 ▸ h
theorem zx_iconst (C : zx_C p s m args c cc nL own B D cl tys A) {z : Int} {v : Int32} (hd : decode cc pc = .ok (.iconst z, 1)) (hv : Int32.ofInt z = v) (h : zx_At p l e R s m args below meth c Q D cl A nL lv ws kc ks (pc + 1) (.int v :: st)) : zx_At p l e R s m args below meth c Q D cl A nL lv ws kc ks pc st := fun H locs ls hl hP hD hS => lv_iconst C.hx C.hb hd hv (h H locs ls hl hP hD hS)
theorem zx_bipush (C : zx_C p s m args c cc nL own B D cl tys A) {z : Int} {v : Int32} (hd : decode cc pc = .ok (.bipush z, 2)) (hv : (Int8.ofInt z).toInt32 = v) (h : zx_At p l e R s m args below meth c Q D cl A nL lv ws kc ks (pc + 2) (.int v :: st)) : zx_At p l e R s m args below meth c Q D cl A nL lv ws kc ks pc st := fun H locs ls hl hP hD hS => lv_bipush C.hx C.hb hd hv (h H locs ls hl hP hD hS)
theorem zx_sipush (C : zx_C p s m args c cc nL own B D cl tys A) {z : Int} {v : Int32} (hd : decode cc pc = .ok (.sipush z, 3)) (hv : (Int16.ofInt z).toInt32 = v) (h : zx_At p l e R s m args below meth c Q D cl A nL lv ws kc ks (pc + 3) (.int v :: st)) : zx_At p l e R s m args below meth c Q D cl A nL lv ws kc ks pc st := fun H locs ls hl hP hD hS => lv_sipush C.hx C.hb hd hv (h H locs ls hl hP hD hS)
theorem zx_lconst (C : zx_C p s m args c cc nL own B D cl tys A) {z : Fin 2} {v : Int64} (hd : decode cc pc = .ok (.lconst z, 1)) (hv : Int64.ofNat (z : Nat) = v) (h : zx_At p l e R s m args below meth c Q D cl A nL lv ws kc ks (pc + 1) (.long v :: st)) : zx_At p l e R s m args below meth c Q D cl A nL lv ws kc ks pc st := fun H locs ls hl hP hD hS => lv_lconst C.hx C.hb hd hv (h H locs ls hl hP hD hS)
theorem zx_ldc (C : zx_C p s m args c cc nL own B D cl tys A) {ix : Nat} {v : Int32} (hc : Cond.constant own ix v ∈ B) (hd : decode cc pc = .ok (.ldc ix, 2)) (h : zx_At p l e R s m args below meth c Q D cl A nL lv ws kc ks (pc + 2) (.int v :: st)) : zx_At p l e R s m args below meth c Q D cl A nL lv ws kc ks pc st := fun H locs ls hl hP hD hS => lv_ldc C.hx C.hb C.ho (C.w hc) hd (h H locs ls hl hP hD hS)
theorem zx_ldc2 (C : zx_C p s m args c cc nL own B D cl tys A) {ix : Nat} {v : Int64} (hc : Cond.constantLong own ix v ∈ B) (hd : decode cc pc = .ok (.ldc2_w ix, 3)) (h : zx_At p l e R s m args below meth c Q D cl A nL lv ws kc ks (pc + 3) (.long v :: st)) : zx_At p l e R s m args below meth c Q D cl A nL lv ws kc ks pc st := fun H locs ls hl hP hD hS => lv_ldc2 C.hx C.hb C.ho (C.w hc) hd (h H locs ls hl hP hD hS)
theorem zx_iload_n (C : zx_C p s m args c cc nL own B D cl tys A) {f : Fin 4} {i : Nat} {x : Int32} (hd : decode cc pc = .ok (.iload_n f, 1)) (hi : (f : Nat) = i) (j : Nat) (hj : lv[j]? = some (i, .int x)) (h : zx_At p l e R s m args below meth c Q D cl A nL lv ws kc ks (pc + 1) (.int x :: st)) : zx_At p l e R s m args below meth c Q D cl A nL lv ws kc ks pc st := fun H locs ls hl hP hD hS => lv_iload_n C.hx C.hb hd hi (lv_at hl j hj) (h H locs ls hl hP hD hS)
theorem zx_iload (C : zx_C p s m args c cc nL own B D cl tys A) {i : Nat} {x : Int32} (hd : decode cc pc = .ok (.iload i, 2)) (j : Nat) (hj : lv[j]? = some (i, .int x)) (h : zx_At p l e R s m args below meth c Q D cl A nL lv ws kc ks (pc + 2) (.int x :: st)) : zx_At p l e R s m args below meth c Q D cl A nL lv ws kc ks pc st := fun H locs ls hl hP hD hS => lv_iload C.hx C.hb hd (lv_at hl j hj) (h H locs ls hl hP hD hS)
theorem zx_istore_n (C : zx_C p s m args c cc nL own B D cl tys A) {f : Fin 4} {i : Nat} {x : Int32} (hd : decode cc pc = .ok (.istore_n f, 1)) (hi : (f : Nat) = i) (hn : i < nL) (hl2 : (i, Value.int x) :: lv.filter (fun q => !(q.1 == i) && !(q.1 + 1 == i && q.2.category == 2)) = lv') (h : zx_At p l e R s m args below meth c Q D cl A nL lv' ws kc ks (pc + 1) st) : zx_At p l e R s m args below meth c Q D cl A nL lv ws kc ks pc (.int x :: st) := fun H locs ls hl hP hD hS => lv_istore_n C.hx C.hb hd hi hl hn hl2 (fun ls' hl' => h H locs ls' hl' hP hD hS)
theorem zx_istore (C : zx_C p s m args c cc nL own B D cl tys A) {i : Nat} {x : Int32} (hd : decode cc pc = .ok (.istore i, 2)) (hn : i < nL) (hl2 : (i, Value.int x) :: lv.filter (fun q => !(q.1 == i) && !(q.1 + 1 == i && q.2.category == 2)) = lv') (h : zx_At p l e R s m args below meth c Q D cl A nL lv' ws kc ks (pc + 2) st) : zx_At p l e R s m args below meth c Q D cl A nL lv ws kc ks pc (.int x :: st) := fun H locs ls hl hP hD hS => lv_istore C.hx C.hb hd hl hn hl2 (fun ls' hl' => h H locs ls' hl' hP hD hS)
theorem zx_lload_n (C : zx_C p s m args c cc nL own B D cl tys A) {f : Fin 4} {i : Nat} {x : Int64} (hd : decode cc pc = .ok (.lload_n f, 1)) (hi : (f : Nat) = i) (j : Nat) (hj : lv[j]? = some (i, .long x)) (h : zx_At p l e R s m args below meth c Q D cl A nL lv ws kc ks (pc + 1) (.long x :: st)) : zx_At p l e R s m args below meth c Q D cl A nL lv ws kc ks pc st := fun H locs ls hl hP hD hS => lv_lload_n C.hx C.hb hd hi (lv_at hl j hj) (h H locs ls hl hP hD hS)
theorem zx_lload (C : zx_C p s m args c cc nL own B D cl tys A) {i : Nat} {x : Int64} (hd : decode cc pc = .ok (.lload i, 2)) (j : Nat) (hj : lv[j]? = some (i, .long x)) (h : zx_At p l e R s m args below meth c Q D cl A nL lv ws kc ks (pc + 2) (.long x :: st)) : zx_At p l e R s m args below meth c Q D cl A nL lv ws kc ks pc st := fun H locs ls hl hP hD hS => lv_lload C.hx C.hb hd (lv_at hl j hj) (h H locs ls hl hP hD hS)
theorem zx_lstore_n (C : zx_C p s m args c cc nL own B D cl tys A) {f : Fin 4} {i : Nat} {x : Int64} (hd : decode cc pc = .ok (.lstore_n f, 1)) (hi : (f : Nat) = i) (hn : i + 1 < nL) (hl2 : (i, Value.long x) :: lv.filter (fun q => !(q.1 == i) && (!(q.1 == i + 1) && !(q.1 + 1 == i && q.2.category == 2))) = lv') (h : zx_At p l e R s m args below meth c Q D cl A nL lv' ws kc ks (pc + 1) st) : zx_At p l e R s m args below meth c Q D cl A nL lv ws kc ks pc (.long x :: st) := fun H locs ls hl hP hD hS => lv_lstore_n C.hx C.hb hd hi hl hn hl2 (fun ls' hl' => h H locs ls' hl' hP hD hS)
theorem zx_lstore (C : zx_C p s m args c cc nL own B D cl tys A) {i : Nat} {x : Int64} (hd : decode cc pc = .ok (.lstore i, 2)) (hn : i + 1 < nL) (hl2 : (i, Value.long x) :: lv.filter (fun q => !(q.1 == i) && (!(q.1 == i + 1) && !(q.1 + 1 == i && q.2.category == 2))) = lv') (h : zx_At p l e R s m args below meth c Q D cl A nL lv' ws kc ks (pc + 2) st) : zx_At p l e R s m args below meth c Q D cl A nL lv ws kc ks pc (.long x :: st) := fun H locs ls hl hP hD hS => lv_lstore C.hx C.hb hd hl hn hl2 (fun ls' hl' => h H locs ls' hl' hP hD hS)
theorem zx_aload_n (C : zx_C p s m args c cc nL own B D cl tys A) {f : Fin 4} {i : Nat} {x : Nat} (hd : decode cc pc = .ok (.aload_n f, 1)) (hi : (f : Nat) = i) (j : Nat) (hj : lv[j]? = some (i, .ref x)) (h : zx_At p l e R s m args below meth c Q D cl A nL lv ws kc ks (pc + 1) (.ref x :: st)) : zx_At p l e R s m args below meth c Q D cl A nL lv ws kc ks pc st := fun H locs ls hl hP hD hS => lv_aload_n C.hx C.hb hd hi (lv_at hl j hj) (h H locs ls hl hP hD hS)
theorem zx_aload (C : zx_C p s m args c cc nL own B D cl tys A) {i : Nat} {x : Nat} (hd : decode cc pc = .ok (.aload i, 2)) (j : Nat) (hj : lv[j]? = some (i, .ref x)) (h : zx_At p l e R s m args below meth c Q D cl A nL lv ws kc ks (pc + 2) (.ref x :: st)) : zx_At p l e R s m args below meth c Q D cl A nL lv ws kc ks pc st := fun H locs ls hl hP hD hS => lv_aload C.hx C.hb hd (lv_at hl j hj) (h H locs ls hl hP hD hS)
theorem zx_astore_n (C : zx_C p s m args c cc nL own B D cl tys A) {f : Fin 4} {i : Nat} {x : Nat} (hd : decode cc pc = .ok (.astore_n f, 1)) (hi : (f : Nat) = i) (hn : i < nL) (hl2 : (i, Value.ref x) :: lv.filter (fun q => !(q.1 == i) && !(q.1 + 1 == i && q.2.category == 2)) = lv') (h : zx_At p l e R s m args below meth c Q D cl A nL lv' ws kc ks (pc + 1) st) : zx_At p l e R s m args below meth c Q D cl A nL lv ws kc ks pc (.ref x :: st) := fun H locs ls hl hP hD hS => lv_astore_n C.hx C.hb hd hi hl hn hl2 (fun ls' hl' => h H locs ls' hl' hP hD hS)
theorem zx_astore (C : zx_C p s m args c cc nL own B D cl tys A) {i : Nat} {x : Nat} (hd : decode cc pc = .ok (.astore i, 2)) (hn : i < nL) (hl2 : (i, Value.ref x) :: lv.filter (fun q => !(q.1 == i) && !(q.1 + 1 == i && q.2.category == 2)) = lv') (h : zx_At p l e R s m args below meth c Q D cl A nL lv' ws kc ks (pc + 2) st) : zx_At p l e R s m args below meth c Q D cl A nL lv ws kc ks pc (.ref x :: st) := fun H locs ls hl hP hD hS => lv_astore C.hx C.hb hd hl hn hl2 (fun ls' hl' => h H locs ls' hl' hP hD hS)
theorem zx_iinc (C : zx_C p s m args c cc nL own B D cl tys A) {i : Nat} {z : Int} {x v : Int32} (hd : decode cc pc = .ok (.iinc i z, 3)) (j : Nat) (hj : lv[j]? = some (i, .int x)) (hv : x + Int32.ofInt z = v) (hn : i < nL) (hl2 : (i, Value.int v) :: lv.filter (fun q => !(q.1 == i) && !(q.1 + 1 == i && q.2.category == 2)) = lv') (h : zx_At p l e R s m args below meth c Q D cl A nL lv' ws kc ks (pc + 3) st) : zx_At p l e R s m args below meth c Q D cl A nL lv ws kc ks pc st := fun H locs ls hl hP hD hS => lv_iinc C.hx C.hb hd hl hj hv hn hl2 (fun ls' hl' => h H locs ls' hl' hP hD hS)
theorem zx_iadd (C : zx_C p s m args c cc nL own B D cl tys A) {x y : Int32} (hd : decode cc pc = .ok (.iadd, 1)) (h : zx_At p l e R s m args below meth c Q D cl A nL lv ws kc ks (pc + 1) (.int (x + y) :: st)) : zx_At p l e R s m args below meth c Q D cl A nL lv ws kc ks pc (.int y :: .int x :: st) := fun H locs ls hl hP hD hS => lv_iadd C.hx C.hb hd  (h H locs ls hl hP hD hS)
theorem zx_isub (C : zx_C p s m args c cc nL own B D cl tys A) {x y : Int32} (hd : decode cc pc = .ok (.isub, 1)) (h : zx_At p l e R s m args below meth c Q D cl A nL lv ws kc ks (pc + 1) (.int (x - y) :: st)) : zx_At p l e R s m args below meth c Q D cl A nL lv ws kc ks pc (.int y :: .int x :: st) := fun H locs ls hl hP hD hS => lv_isub C.hx C.hb hd  (h H locs ls hl hP hD hS)
theorem zx_imul (C : zx_C p s m args c cc nL own B D cl tys A) {x y : Int32} (hd : decode cc pc = .ok (.imul, 1)) (h : zx_At p l e R s m args below meth c Q D cl A nL lv ws kc ks (pc + 1) (.int (x * y) :: st)) : zx_At p l e R s m args below meth c Q D cl A nL lv ws kc ks pc (.int y :: .int x :: st) := fun H locs ls hl hP hD hS => lv_imul C.hx C.hb hd  (h H locs ls hl hP hD hS)
theorem zx_iand (C : zx_C p s m args c cc nL own B D cl tys A) {x y : Int32} (hd : decode cc pc = .ok (.iand, 1)) (h : zx_At p l e R s m args below meth c Q D cl A nL lv ws kc ks (pc + 1) (.int (x &&& y) :: st)) : zx_At p l e R s m args below meth c Q D cl A nL lv ws kc ks pc (.int y :: .int x :: st) := fun H locs ls hl hP hD hS => lv_iand C.hx C.hb hd  (h H locs ls hl hP hD hS)
theorem zx_ior (C : zx_C p s m args c cc nL own B D cl tys A) {x y : Int32} (hd : decode cc pc = .ok (.ior, 1)) (h : zx_At p l e R s m args below meth c Q D cl A nL lv ws kc ks (pc + 1) (.int (x ||| y) :: st)) : zx_At p l e R s m args below meth c Q D cl A nL lv ws kc ks pc (.int y :: .int x :: st) := fun H locs ls hl hP hD hS => lv_ior C.hx C.hb hd  (h H locs ls hl hP hD hS)
theorem zx_ixor (C : zx_C p s m args c cc nL own B D cl tys A) {x y : Int32} (hd : decode cc pc = .ok (.ixor, 1)) (h : zx_At p l e R s m args below meth c Q D cl A nL lv ws kc ks (pc + 1) (.int (x ^^^ y) :: st)) : zx_At p l e R s m args below meth c Q D cl A nL lv ws kc ks pc (.int y :: .int x :: st) := fun H locs ls hl hP hD hS => lv_ixor C.hx C.hb hd  (h H locs ls hl hP hD hS)
theorem zx_ishl (C : zx_C p s m args c cc nL own B D cl tys A) {x y : Int32} (hd : decode cc pc = .ok (.ishl, 1)) (h : zx_At p l e R s m args below meth c Q D cl A nL lv ws kc ks (pc + 1) (.int (x <<< (y &&& 31)) :: st)) : zx_At p l e R s m args below meth c Q D cl A nL lv ws kc ks pc (.int y :: .int x :: st) := fun H locs ls hl hP hD hS => lv_ishl C.hx C.hb hd  (h H locs ls hl hP hD hS)
theorem zx_ishr (C : zx_C p s m args c cc nL own B D cl tys A) {x y : Int32} (hd : decode cc pc = .ok (.ishr, 1)) (h : zx_At p l e R s m args below meth c Q D cl A nL lv ws kc ks (pc + 1) (.int (x >>> (y &&& 31)) :: st)) : zx_At p l e R s m args below meth c Q D cl A nL lv ws kc ks pc (.int y :: .int x :: st) := fun H locs ls hl hP hD hS => lv_ishr C.hx C.hb hd  (h H locs ls hl hP hD hS)
theorem zx_irem (C : zx_C p s m args c cc nL own B D cl tys A) {x y : Int32} (hd : decode cc pc = .ok (.irem, 1)) (hne : ¬ y = 0) (h : zx_At p l e R s m args below meth c Q D cl A nL lv ws kc ks (pc + 1) (.int (x - x / y * y) :: st)) : zx_At p l e R s m args below meth c Q D cl A nL lv ws kc ks pc (.int y :: .int x :: st) := fun H locs ls hl hP hD hS => lv_irem C.hx C.hb hd hne (h H locs ls hl hP hD hS)
theorem zx_ineg (C : zx_C p s m args c cc nL own B D cl tys A) {x : Int32} (hd : decode cc pc = .ok (.ineg, 1)) (h : zx_At p l e R s m args below meth c Q D cl A nL lv ws kc ks (pc + 1) (.int (-x) :: st)) : zx_At p l e R s m args below meth c Q D cl A nL lv ws kc ks pc (.int x :: st) := fun H locs ls hl hP hD hS => lv_ineg C.hx C.hb hd  (h H locs ls hl hP hD hS)
theorem zx_ladd (C : zx_C p s m args c cc nL own B D cl tys A) {x y : Int64} (hd : decode cc pc = .ok (.ladd, 1)) (h : zx_At p l e R s m args below meth c Q D cl A nL lv ws kc ks (pc + 1) (.long (x + y) :: st)) : zx_At p l e R s m args below meth c Q D cl A nL lv ws kc ks pc (.long y :: .long x :: st) := fun H locs ls hl hP hD hS => lv_ladd C.hx C.hb hd  (h H locs ls hl hP hD hS)
theorem zx_lsub (C : zx_C p s m args c cc nL own B D cl tys A) {x y : Int64} (hd : decode cc pc = .ok (.lsub, 1)) (h : zx_At p l e R s m args below meth c Q D cl A nL lv ws kc ks (pc + 1) (.long (x - y) :: st)) : zx_At p l e R s m args below meth c Q D cl A nL lv ws kc ks pc (.long y :: .long x :: st) := fun H locs ls hl hP hD hS => lv_lsub C.hx C.hb hd  (h H locs ls hl hP hD hS)
theorem zx_lmul (C : zx_C p s m args c cc nL own B D cl tys A) {x y : Int64} (hd : decode cc pc = .ok (.lmul, 1)) (h : zx_At p l e R s m args below meth c Q D cl A nL lv ws kc ks (pc + 1) (.long (x * y) :: st)) : zx_At p l e R s m args below meth c Q D cl A nL lv ws kc ks pc (.long y :: .long x :: st) := fun H locs ls hl hP hD hS => lv_lmul C.hx C.hb hd  (h H locs ls hl hP hD hS)
theorem zx_land (C : zx_C p s m args c cc nL own B D cl tys A) {x y : Int64} (hd : decode cc pc = .ok (.land, 1)) (h : zx_At p l e R s m args below meth c Q D cl A nL lv ws kc ks (pc + 1) (.long (x &&& y) :: st)) : zx_At p l e R s m args below meth c Q D cl A nL lv ws kc ks pc (.long y :: .long x :: st) := fun H locs ls hl hP hD hS => lv_land C.hx C.hb hd  (h H locs ls hl hP hD hS)
theorem zx_lor (C : zx_C p s m args c cc nL own B D cl tys A) {x y : Int64} (hd : decode cc pc = .ok (.lor, 1)) (h : zx_At p l e R s m args below meth c Q D cl A nL lv ws kc ks (pc + 1) (.long (x ||| y) :: st)) : zx_At p l e R s m args below meth c Q D cl A nL lv ws kc ks pc (.long y :: .long x :: st) := fun H locs ls hl hP hD hS => lv_lor C.hx C.hb hd  (h H locs ls hl hP hD hS)
theorem zx_i2l (C : zx_C p s m args c cc nL own B D cl tys A) {x : Int32} {v : Int64} (hd : decode cc pc = .ok (.i2l, 1)) (hv : x.toInt64 = v) (h : zx_At p l e R s m args below meth c Q D cl A nL lv ws kc ks (pc + 1) (.long v :: st)) : zx_At p l e R s m args below meth c Q D cl A nL lv ws kc ks pc (.int x :: st) := fun H locs ls hl hP hD hS => lv_i2l C.hx C.hb hd hv (h H locs ls hl hP hD hS)
theorem zx_l2i (C : zx_C p s m args c cc nL own B D cl tys A) {x : Int64} {v : Int32} (hd : decode cc pc = .ok (.l2i, 1)) (hv : x.toInt32 = v) (h : zx_At p l e R s m args below meth c Q D cl A nL lv ws kc ks (pc + 1) (.int v :: st)) : zx_At p l e R s m args below meth c Q D cl A nL lv ws kc ks pc (.long x :: st) := fun H locs ls hl hP hD hS => lv_l2i C.hx C.hb hd hv (h H locs ls hl hP hD hS)
theorem zx_i2b (C : zx_C p s m args c cc nL own B D cl tys A) {x v : Int32} (hd : decode cc pc = .ok (.i2b, 1)) (hv : x.toInt8.toInt32 = v) (h : zx_At p l e R s m args below meth c Q D cl A nL lv ws kc ks (pc + 1) (.int v :: st)) : zx_At p l e R s m args below meth c Q D cl A nL lv ws kc ks pc (.int x :: st) := fun H locs ls hl hP hD hS => lv_i2b C.hx C.hb hd hv (h H locs ls hl hP hD hS)
theorem zx_iushr (C : zx_C p s m args c cc nL own B D cl tys A) {x y v : Int32} (hd : decode cc pc = .ok (.iushr, 1)) (hv : (x.toUInt32 >>> (y.toUInt32 &&& Int32.toUInt32 31)).toInt32 = v) (h : zx_At p l e R s m args below meth c Q D cl A nL lv ws kc ks (pc + 1) (.int v :: st)) : zx_At p l e R s m args below meth c Q D cl A nL lv ws kc ks pc (.int y :: .int x :: st) := fun H locs ls hl hP hD hS => lv_iushr C.hx C.hb hd hv (h H locs ls hl hP hD hS)
theorem zx_lshl (C : zx_C p s m args c cc nL own B D cl tys A) {x v : Int64} {y : Int32} (hd : decode cc pc = .ok (.lshl, 1)) (hv : x <<< (y.toInt64 &&& 63) = v) (h : zx_At p l e R s m args below meth c Q D cl A nL lv ws kc ks (pc + 1) (.long v :: st)) : zx_At p l e R s m args below meth c Q D cl A nL lv ws kc ks pc (.int y :: .long x :: st) := fun H locs ls hl hP hD hS => lv_lshl C.hx C.hb hd hv (h H locs ls hl hP hD hS)
theorem zx_dup (C : zx_C p s m args c cc nL own B D cl tys A) {va : Value} (hd : decode cc pc = .ok (.dup, 1)) (hva : va.category = 1) (h : zx_At p l e R s m args below meth c Q D cl A nL lv ws kc ks (pc + 1) (va :: va :: st)) : zx_At p l e R s m args below meth c Q D cl A nL lv ws kc ks pc (va :: st) := fun H locs ls hl hP hD hS => lv_dup C.hx C.hb hd hva (h H locs ls hl hP hD hS)
theorem zx_dup2 (C : zx_C p s m args c cc nL own B D cl tys A) {va vb : Value} (hd : decode cc pc = .ok (.dup2, 1)) (hva : va.category = 1) (hvb : vb.category = 1) (h : zx_At p l e R s m args below meth c Q D cl A nL lv ws kc ks (pc + 1) (va :: vb :: va :: vb :: st)) : zx_At p l e R s m args below meth c Q D cl A nL lv ws kc ks pc (va :: vb :: st) := fun H locs ls hl hP hD hS => lv_dup2_11 C.hx C.hb hd hva hvb (h H locs ls hl hP hD hS)
theorem zx_dup_x1 (C : zx_C p s m args c cc nL own B D cl tys A) {va vb : Value} (hd : decode cc pc = .ok (.dup_x1, 1)) (hva : va.category = 1) (hvb : vb.category = 1) (h : zx_At p l e R s m args below meth c Q D cl A nL lv ws kc ks (pc + 1) (va :: vb :: va :: st)) : zx_At p l e R s m args below meth c Q D cl A nL lv ws kc ks pc (va :: vb :: st) := fun H locs ls hl hP hD hS => lv_dup_x1 C.hx C.hb hd hva hvb (h H locs ls hl hP hD hS)
theorem zx_pop (C : zx_C p s m args c cc nL own B D cl tys A) {va : Value} (hd : decode cc pc = .ok (.pop, 1)) (hva : va.category = 1) (h : zx_At p l e R s m args below meth c Q D cl A nL lv ws kc ks (pc + 1) st) : zx_At p l e R s m args below meth c Q D cl A nL lv ws kc ks pc (va :: st) := fun H locs ls hl hP hD hS => lv_pop C.hx C.hb hd hva (h H locs ls hl hP hD hS)
theorem zx_pop2l (C : zx_C p s m args c cc nL own B D cl tys A) {va : Value} (hd : decode cc pc = .ok (.pop2, 1)) (hva : va.category = 2) (h : zx_At p l e R s m args below meth c Q D cl A nL lv ws kc ks (pc + 1) st) : zx_At p l e R s m args below meth c Q D cl A nL lv ws kc ks pc (va :: st) := fun H locs ls hl hP hD hS => lv_pop2_2 C.hx C.hb hd hva (h H locs ls hl hP hD hS)
theorem zx_if_eq (C : zx_C p s m args c cc nL own B D cl tys A) {x : Int32} {off : Int} (tgt : Nat) (hd : decode cc pc = .ok (.ifCond .eq off, 3)) (ht : (pc : Int) + off = (tgt : Int)) (kt : x = 0 → zx_At p l e R s m args below meth c Q D cl A nL lv ws kc ks tgt st) (kf : ¬ x = 0 → zx_At p l e R s m args below meth c Q D cl A nL lv ws kc ks (pc + 3) st) : zx_At p l e R s m args below meth c Q D cl A nL lv ws kc ks pc (.int x :: st) := fun H locs ls hl hP hD hS => lv_if_eq C.hx C.hb hd ht (fun q => kt q H locs ls hl hP hD hS) (fun q => kf q H locs ls hl hP hD hS)
theorem zx_if_ne (C : zx_C p s m args c cc nL own B D cl tys A) {x : Int32} {off : Int} (tgt : Nat) (hd : decode cc pc = .ok (.ifCond .ne off, 3)) (ht : (pc : Int) + off = (tgt : Int)) (kt : ¬ x = 0 → zx_At p l e R s m args below meth c Q D cl A nL lv ws kc ks tgt st) (kf : x = 0 → zx_At p l e R s m args below meth c Q D cl A nL lv ws kc ks (pc + 3) st) : zx_At p l e R s m args below meth c Q D cl A nL lv ws kc ks pc (.int x :: st) := fun H locs ls hl hP hD hS => lv_if_ne C.hx C.hb hd ht (fun q => kt q H locs ls hl hP hD hS) (fun q => kf q H locs ls hl hP hD hS)
theorem zx_if_lt (C : zx_C p s m args c cc nL own B D cl tys A) {x : Int32} {off : Int} (tgt : Nat) (hd : decode cc pc = .ok (.ifCond .lt off, 3)) (ht : (pc : Int) + off = (tgt : Int)) (kt : x < 0 → zx_At p l e R s m args below meth c Q D cl A nL lv ws kc ks tgt st) (kf : ¬ x < 0 → zx_At p l e R s m args below meth c Q D cl A nL lv ws kc ks (pc + 3) st) : zx_At p l e R s m args below meth c Q D cl A nL lv ws kc ks pc (.int x :: st) := fun H locs ls hl hP hD hS => lv_if_lt C.hx C.hb hd ht (fun q => kt q H locs ls hl hP hD hS) (fun q => kf q H locs ls hl hP hD hS)
theorem zx_if_ge (C : zx_C p s m args c cc nL own B D cl tys A) {x : Int32} {off : Int} (tgt : Nat) (hd : decode cc pc = .ok (.ifCond .ge off, 3)) (ht : (pc : Int) + off = (tgt : Int)) (kt : 0 ≤ x → zx_At p l e R s m args below meth c Q D cl A nL lv ws kc ks tgt st) (kf : ¬ 0 ≤ x → zx_At p l e R s m args below meth c Q D cl A nL lv ws kc ks (pc + 3) st) : zx_At p l e R s m args below meth c Q D cl A nL lv ws kc ks pc (.int x :: st) := fun H locs ls hl hP hD hS => lv_if_ge C.hx C.hb hd ht (fun q => kt q H locs ls hl hP hD hS) (fun q => kf q H locs ls hl hP hD hS)
theorem zx_if_gt (C : zx_C p s m args c cc nL own B D cl tys A) {x : Int32} {off : Int} (tgt : Nat) (hd : decode cc pc = .ok (.ifCond .gt off, 3)) (ht : (pc : Int) + off = (tgt : Int)) (kt : 0 < x → zx_At p l e R s m args below meth c Q D cl A nL lv ws kc ks tgt st) (kf : ¬ 0 < x → zx_At p l e R s m args below meth c Q D cl A nL lv ws kc ks (pc + 3) st) : zx_At p l e R s m args below meth c Q D cl A nL lv ws kc ks pc (.int x :: st) := fun H locs ls hl hP hD hS => lv_if_gt C.hx C.hb hd ht (fun q => kt q H locs ls hl hP hD hS) (fun q => kf q H locs ls hl hP hD hS)
theorem zx_if_le (C : zx_C p s m args c cc nL own B D cl tys A) {x : Int32} {off : Int} (tgt : Nat) (hd : decode cc pc = .ok (.ifCond .le off, 3)) (ht : (pc : Int) + off = (tgt : Int)) (kt : x ≤ 0 → zx_At p l e R s m args below meth c Q D cl A nL lv ws kc ks tgt st) (kf : ¬ x ≤ 0 → zx_At p l e R s m args below meth c Q D cl A nL lv ws kc ks (pc + 3) st) : zx_At p l e R s m args below meth c Q D cl A nL lv ws kc ks pc (.int x :: st) := fun H locs ls hl hP hD hS => lv_if_le C.hx C.hb hd ht (fun q => kt q H locs ls hl hP hD hS) (fun q => kf q H locs ls hl hP hD hS)
theorem zx_icmp_eq (C : zx_C p s m args c cc nL own B D cl tys A) {x y : Int32} {off : Int} (tgt : Nat) (hd : decode cc pc = .ok (.if_icmp .eq off, 3)) (ht : (pc : Int) + off = (tgt : Int)) (kt : x = y → zx_At p l e R s m args below meth c Q D cl A nL lv ws kc ks tgt st) (kf : ¬ x = y → zx_At p l e R s m args below meth c Q D cl A nL lv ws kc ks (pc + 3) st) : zx_At p l e R s m args below meth c Q D cl A nL lv ws kc ks pc (.int y :: .int x :: st) := fun H locs ls hl hP hD hS => lv_icmp_eq C.hx C.hb hd ht (fun q => kt q H locs ls hl hP hD hS) (fun q => kf q H locs ls hl hP hD hS)
theorem zx_icmp_ne (C : zx_C p s m args c cc nL own B D cl tys A) {x y : Int32} {off : Int} (tgt : Nat) (hd : decode cc pc = .ok (.if_icmp .ne off, 3)) (ht : (pc : Int) + off = (tgt : Int)) (kt : ¬ x = y → zx_At p l e R s m args below meth c Q D cl A nL lv ws kc ks tgt st) (kf : x = y → zx_At p l e R s m args below meth c Q D cl A nL lv ws kc ks (pc + 3) st) : zx_At p l e R s m args below meth c Q D cl A nL lv ws kc ks pc (.int y :: .int x :: st) := fun H locs ls hl hP hD hS => lv_icmp_ne C.hx C.hb hd ht (fun q => kt q H locs ls hl hP hD hS) (fun q => kf q H locs ls hl hP hD hS)
theorem zx_icmp_lt (C : zx_C p s m args c cc nL own B D cl tys A) {x y : Int32} {off : Int} (tgt : Nat) (hd : decode cc pc = .ok (.if_icmp .lt off, 3)) (ht : (pc : Int) + off = (tgt : Int)) (kt : x < y → zx_At p l e R s m args below meth c Q D cl A nL lv ws kc ks tgt st) (kf : ¬ x < y → zx_At p l e R s m args below meth c Q D cl A nL lv ws kc ks (pc + 3) st) : zx_At p l e R s m args below meth c Q D cl A nL lv ws kc ks pc (.int y :: .int x :: st) := fun H locs ls hl hP hD hS => lv_icmp_lt C.hx C.hb hd ht (fun q => kt q H locs ls hl hP hD hS) (fun q => kf q H locs ls hl hP hD hS)
theorem zx_icmp_ge (C : zx_C p s m args c cc nL own B D cl tys A) {x y : Int32} {off : Int} (tgt : Nat) (hd : decode cc pc = .ok (.if_icmp .ge off, 3)) (ht : (pc : Int) + off = (tgt : Int)) (kt : y ≤ x → zx_At p l e R s m args below meth c Q D cl A nL lv ws kc ks tgt st) (kf : ¬ y ≤ x → zx_At p l e R s m args below meth c Q D cl A nL lv ws kc ks (pc + 3) st) : zx_At p l e R s m args below meth c Q D cl A nL lv ws kc ks pc (.int y :: .int x :: st) := fun H locs ls hl hP hD hS => lv_icmp_ge C.hx C.hb hd ht (fun q => kt q H locs ls hl hP hD hS) (fun q => kf q H locs ls hl hP hD hS)
theorem zx_icmp_gt (C : zx_C p s m args c cc nL own B D cl tys A) {x y : Int32} {off : Int} (tgt : Nat) (hd : decode cc pc = .ok (.if_icmp .gt off, 3)) (ht : (pc : Int) + off = (tgt : Int)) (kt : y < x → zx_At p l e R s m args below meth c Q D cl A nL lv ws kc ks tgt st) (kf : ¬ y < x → zx_At p l e R s m args below meth c Q D cl A nL lv ws kc ks (pc + 3) st) : zx_At p l e R s m args below meth c Q D cl A nL lv ws kc ks pc (.int y :: .int x :: st) := fun H locs ls hl hP hD hS => lv_icmp_gt C.hx C.hb hd ht (fun q => kt q H locs ls hl hP hD hS) (fun q => kf q H locs ls hl hP hD hS)
theorem zx_icmp_le (C : zx_C p s m args c cc nL own B D cl tys A) {x y : Int32} {off : Int} (tgt : Nat) (hd : decode cc pc = .ok (.if_icmp .le off, 3)) (ht : (pc : Int) + off = (tgt : Int)) (kt : x ≤ y → zx_At p l e R s m args below meth c Q D cl A nL lv ws kc ks tgt st) (kf : ¬ x ≤ y → zx_At p l e R s m args below meth c Q D cl A nL lv ws kc ks (pc + 3) st) : zx_At p l e R s m args below meth c Q D cl A nL lv ws kc ks pc (.int y :: .int x :: st) := fun H locs ls hl hP hD hS => lv_icmp_le C.hx C.hb hd ht (fun q => kt q H locs ls hl hP hD hS) (fun q => kf q H locs ls hl hP hD hS)
theorem zx_goto (C : zx_C p s m args c cc nL own B D cl tys A) {off : Int} (tgt : Nat) (hd : decode cc pc = .ok (.goto off, 3)) (ht : (pc : Int) + off = (tgt : Int)) (h : zx_At p l e R s m args below meth c Q D cl A nL lv ws kc ks tgt st) : zx_At p l e R s m args below meth c Q D cl A nL lv ws kc ks pc st := fun H locs ls hl hP hD hS => lv_goto C.hx C.hb hd ht (h H locs ls hl hP hD hS)
theorem zx_get (C : zx_C p s m args c cc nL own B D cl tys A) {ref Cn : String} {T : u_T} {N ci ix : Nat} {a : Nat} {fs : List Value} (hin : ∀ w ∈ u_ws Cn T N, w ∈ B) (q0 : Nat) (he : ws[q0]? = some (a, .inr (ci, fs))) (hc : cl[ci]? = some (Cn, T, N)) (f : Nat) (hf : f < N) (hk : Cond.fieldLink own ix ref (T f).2.1 (T f).2.2.1 ∈ B) (hr : (T f).1 = ref) {v : Value} (hv : fs[f]? = some v) (hd : decode cc pc = .ok (.getfield ix, 3)) (h : zx_At p l e R s m args below meth c Q D cl A nL lv ws kc ks (pc + 3) (v :: st)) : zx_At p l e R s m args below meth c Q D cl A nL lv ws kc ks pc (.ref a :: st) := fun H locs ls hl hP hD hS => va_get C.hx C.hb C.ts hin C.ho C.k hP q0 he hc f hf (C.w hk) (fun x hx => by rw [← hr]; exact hx) hv hd (h H locs ls hl hP hD hS)
theorem zx_getN (C : zx_C p s m args c cc nL own B D cl tys A) {ref Cn : String} {T : u_T} {N ci ix : Nat} {a : Nat} {fs : List Value} {host : String} (hin : ∀ w ∈ u_ws Cn T N, w ∈ B) (q0 : Nat) (he : ws[q0]? = some (a, .inr (ci, fs))) (hc : cl[ci]? = some (Cn, T, N)) (f : Nat) (hf : f < N) (hk : Cond.fieldLinkNest own ix ref (T f).2.1 (T f).2.2.1 host ∈ B) (hr : (T f).1 = ref) {v : Value} (hv : fs[f]? = some v) (hd : decode cc pc = .ok (.getfield ix, 3)) (h : zx_At p l e R s m args below meth c Q D cl A nL lv ws kc ks (pc + 3) (v :: st)) : zx_At p l e R s m args below meth c Q D cl A nL lv ws kc ks pc (.ref a :: st) := fun H locs ls hl hP hD hS => va_getN C.hx C.hb C.ts hin C.ho C.k hP q0 he hc f hf (C.w hk) (fun x hx => by rw [← hr]; exact hx) hv hd (h H locs ls hl hP hD hS)
theorem zx_put (C : zx_C p s m args c cc nL own B D cl tys A) {ref Cn : String} {T : u_T} {N ci ix : Nat} {a : Nat} {fs : List Value} (hin : ∀ w ∈ u_ws Cn T N, w ∈ B) (ty0 : Nat → FieldType) (hty : ∀ k, k < N → parseFieldDescriptor (T k).2.2.1 = some (ty0 k)) (hnm : ∀ a, a < N → ∀ b, b < N → a ≠ b → (T a).2.1 ≠ (T b).2.1) (q0 : Nat) (he : ws[q0]? = some (a, .inr (ci, fs))) (hc : cl[ci]? = some (Cn, T, N)) (f : Nat) (hf : f < N) (hk : Cond.fieldLink own ix ref (T f).2.1 (T f).2.2.1 ∈ B) (hr : (T f).1 = ref) (hfin : (T f).2.2.2 = false) {ty : FieldType} {v : Value} (hdd : parseFieldDescriptor (T f).2.2.1 = some ty) (hna : narrow ty v = v) (hfi : fits ty v = true) (hle : f < fs.length) (hw : ws.set q0 (a, .inr (ci, fs.set f v)) = ws') (hd : decode cc pc = .ok (.putfield ix, 3)) (h : zx_At p l e R s m args below meth c Q D cl A nL lv ws' kc ks (pc + 3) st) : zx_At p l e R s m args below meth c Q D cl A nL lv ws kc ks pc (v :: .ref a :: st) := fun H locs ls hl hP hD hS => va_put C.hx C.hb C.ts hin ty0 hty hnm C.ho C.k hP hD hS q0 he hc f hf (C.w hk) (fun x hx => by rw [← hr]; exact hx) hfin hdd hna hfi hle hd (fun H1 l1 hP1 hD1 hS1 => h H1 l1 ls hl (hw ▸ hP1) (hw ▸ hD1) hS1)
theorem zx_putN (C : zx_C p s m args c cc nL own B D cl tys A) {ref Cn : String} {T : u_T} {N ci ix : Nat} {a : Nat} {fs : List Value} {host : String} (hin : ∀ w ∈ u_ws Cn T N, w ∈ B) (ty0 : Nat → FieldType) (hty : ∀ k, k < N → parseFieldDescriptor (T k).2.2.1 = some (ty0 k)) (hnm : ∀ a, a < N → ∀ b, b < N → a ≠ b → (T a).2.1 ≠ (T b).2.1) (q0 : Nat) (he : ws[q0]? = some (a, .inr (ci, fs))) (hc : cl[ci]? = some (Cn, T, N)) (f : Nat) (hf : f < N) (hk : Cond.fieldLinkNest own ix ref (T f).2.1 (T f).2.2.1 host ∈ B) (hr : (T f).1 = ref) (hfin : (T f).2.2.2 = false) {ty : FieldType} {v : Value} (hdd : parseFieldDescriptor (T f).2.2.1 = some ty) (hna : narrow ty v = v) (hfi : fits ty v = true) (hle : f < fs.length) (hw : ws.set q0 (a, .inr (ci, fs.set f v)) = ws') (hd : decode cc pc = .ok (.putfield ix, 3)) (h : zx_At p l e R s m args below meth c Q D cl A nL lv ws' kc ks (pc + 3) st) : zx_At p l e R s m args below meth c Q D cl A nL lv ws kc ks pc (v :: .ref a :: st) := fun H locs ls hl hP hD hS => va_putN C.hx C.hb C.ts hin ty0 hty hnm C.ho C.k hP hD hS q0 he hc f hf (C.w hk) (fun x hx => by rw [← hr]; exact hx) hfin hdd hna hfi hle hd (fun H1 l1 hP1 hD1 hS1 => h H1 l1 ls hl (hw ▸ hP1) (hw ▸ hD1) hS1)
theorem zx_putF (C : zx_C p s m args c cc nL own B D cl tys A) {ref Cn : String} {T : u_T} {N ci ix : Nat} {a : Nat} {fs : List Value} (hin : ∀ w ∈ u_ws Cn T N, w ∈ B) (ty0 : Nat → FieldType) (hty : ∀ k, k < N → parseFieldDescriptor (T k).2.2.1 = some (ty0 k)) (hnm : ∀ a, a < N → ∀ b, b < N → a ≠ b → (T a).2.1 ≠ (T b).2.1) (q0 : Nat) (he : ws[q0]? = some (a, .inr (ci, fs))) (hc : cl[ci]? = some (Cn, T, N)) (f : Nat) (hf : f < N) (hk : Cond.fieldLink own ix ref (T f).2.1 (T f).2.2.1 ∈ B) (hr : (T f).1 = ref) (hfin : (T f).2.2.2 = true) (hi : meth.name = "<init>") (hde : (T f).1 = own) {ty : FieldType} {v : Value} (hdd : parseFieldDescriptor (T f).2.2.1 = some ty) (hna : narrow ty v = v) (hfi : fits ty v = true) (hle : f < fs.length) (hw : ws.set q0 (a, .inr (ci, fs.set f v)) = ws') (hd : decode cc pc = .ok (.putfield ix, 3)) (h : zx_At p l e R s m args below meth c Q D cl A nL lv ws' kc ks (pc + 3) st) : zx_At p l e R s m args below meth c Q D cl A nL lv ws kc ks pc (v :: .ref a :: st) := fun H locs ls hl hP hD hS => va_putF C.hx C.hb C.ts hin ty0 hty hnm C.ho C.k hP hD hS q0 he hc f hf (C.w hk) (fun x hx => by rw [← hr]; exact hx) hfin hi hde hdd hna hfi hle hd (fun H1 l1 hP1 hD1 hS1 => h H1 l1 ls hl (hw ▸ hP1) (hw ▸ hD1) hS1)
theorem zx_iald (C : zx_C p s m args c cc nL own B D cl tys A) (q0 t0 : Nat) {a n : Nat} {cA : ClassId} {f : Nat → Int32} (ha : ws[q0]? = some (a, .inl (cA, n, .inl f))) (ht : tys[t0]? = some (cA, .int)) {i : Int32} (j : Nat) (hi : i = nI j) (hj : j < n) (hn : n < 2 ^ 31) (hd : decode cc pc = .ok (.iaload, 1)) (h : zx_At p l e R s m args below meth c Q D cl A nL lv ws kc ks (pc + 1) (.int (f j) :: st)) : zx_At p l e R s m args below meth c Q D cl A nL lv ws kc ks pc (.int i :: .ref a :: st) := fun H locs ls hl hP hD hS => va_iald C.hx C.hb C.k hP q0 t0 ha ht (by rw [hi]; exact vp_in_nI hj hn) hd (by rw [hi, nI_clamp (Nat.lt_trans hj hn)]; exact h H locs ls hl hP hD hS)
theorem zx_iast (C : zx_C p s m args c cc nL own B D cl tys A) (q0 t0 : Nat) {a n : Nat} {cA : ClassId} {f : Nat → Int32} (ha : ws[q0]? = some (a, .inl (cA, n, .inl f))) (ht : tys[t0]? = some (cA, .int)) {i : Int32} {x : Int32} (j : Nat) (hi : i = nI j) (hj : j < n) (hn : n < 2 ^ 31) (hw : ws.set q0 (a, .inl (cA, n, .inl (upd f j x))) = ws') (hd : decode cc pc = .ok (.iastore, 1)) (h : zx_At p l e R s m args below meth c Q D cl A nL lv ws' kc ks (pc + 1) st) : zx_At p l e R s m args below meth c Q D cl A nL lv ws kc ks pc (.int x :: .int i :: .ref a :: st) := fun H locs ls hl hP hD hS => va_iast C.hx C.hb C.k hP hD hS q0 t0 ha ht (by rw [hi]; exact vp_in_nI hj hn) hd (fun H1 l1 hP1 hD1 hS1 => by
    rw [hi, nI_clamp (Nat.lt_trans hj hn)] at hP1 hD1
    exact h H1 l1 ls hl (hw ▸ hP1) (hw ▸ hD1) hS1)
theorem zx_bald (C : zx_C p s m args c cc nL own B D cl tys A) (q0 t0 : Nat) {a n : Nat} {cA : ClassId} {f : Nat → Int32} (ha : ws[q0]? = some (a, .inl (cA, n, .inl f))) (ht : tys[t0]? = some (cA, .byte)) {i : Int32} (j : Nat) (hi : i = nI j) (hj : j < n) (hn : n < 2 ^ 31) (hd : decode cc pc = .ok (.baload, 1)) (h : zx_At p l e R s m args below meth c Q D cl A nL lv ws kc ks (pc + 1) (.int (f j) :: st)) : zx_At p l e R s m args below meth c Q D cl A nL lv ws kc ks pc (.int i :: .ref a :: st) := fun H locs ls hl hP hD hS => va_bald C.hx C.hb C.k hP q0 t0 ha ht (by rw [hi]; exact vp_in_nI hj hn) hd (by rw [hi, nI_clamp (Nat.lt_trans hj hn)]; exact h H locs ls hl hP hD hS)
theorem zx_bast (C : zx_C p s m args c cc nL own B D cl tys A) (q0 t0 : Nat) {a n : Nat} {cA : ClassId} {f : Nat → Int32} (ha : ws[q0]? = some (a, .inl (cA, n, .inl f))) (ht : tys[t0]? = some (cA, .byte)) {i : Int32} {x : Int32} (j : Nat) (hi : i = nI j) (hj : j < n) (hn : n < 2 ^ 31) (hw : ws.set q0 (a, .inl (cA, n, .inl (upd f j (vp_nar .byte x)))) = ws') (hd : decode cc pc = .ok (.bastore, 1)) (h : zx_At p l e R s m args below meth c Q D cl A nL lv ws' kc ks (pc + 1) st) : zx_At p l e R s m args below meth c Q D cl A nL lv ws kc ks pc (.int x :: .int i :: .ref a :: st) := fun H locs ls hl hP hD hS => va_bast C.hx C.hb C.k hP hD hS q0 t0 ha ht (by rw [hi]; exact vp_in_nI hj hn) hd (fun H1 l1 hP1 hD1 hS1 => by
    rw [hi, nI_clamp (Nat.lt_trans hj hn)] at hP1 hD1
    exact h H1 l1 ls hl (hw ▸ hP1) (hw ▸ hD1) hS1)
theorem zx_lald (C : zx_C p s m args c cc nL own B D cl tys A) (q0 t0 : Nat) {a n : Nat} {cA : ClassId} {f : Nat → Int64} (ha : ws[q0]? = some (a, .inl (cA, n, .inr (.inl f)))) (ht : tys[t0]? = some (cA, .long)) {i : Int32} (j : Nat) (hi : i = nI j) (hj : j < n) (hn : n < 2 ^ 31) (hd : decode cc pc = .ok (.laload, 1)) (h : zx_At p l e R s m args below meth c Q D cl A nL lv ws kc ks (pc + 1) (.long (f j) :: st)) : zx_At p l e R s m args below meth c Q D cl A nL lv ws kc ks pc (.int i :: .ref a :: st) := fun H locs ls hl hP hD hS => va_lald C.hx C.hb C.k hP q0 t0 ha ht (by rw [hi]; exact vp_in_nI hj hn) hd (by rw [hi, nI_clamp (Nat.lt_trans hj hn)]; exact h H locs ls hl hP hD hS)
theorem zx_last (C : zx_C p s m args c cc nL own B D cl tys A) (q0 t0 : Nat) {a n : Nat} {cA : ClassId} {f : Nat → Int64} (ha : ws[q0]? = some (a, .inl (cA, n, .inr (.inl f)))) (ht : tys[t0]? = some (cA, .long)) {i : Int32} {x : Int64} (j : Nat) (hi : i = nI j) (hj : j < n) (hn : n < 2 ^ 31) (hw : ws.set q0 (a, .inl (cA, n, .inr (.inl (vp_updL f j x)))) = ws') (hd : decode cc pc = .ok (.lastore, 1)) (h : zx_At p l e R s m args below meth c Q D cl A nL lv ws' kc ks (pc + 1) st) : zx_At p l e R s m args below meth c Q D cl A nL lv ws kc ks pc (.long x :: .int i :: .ref a :: st) := fun H locs ls hl hP hD hS => va_last C.hx C.hb C.k hP hD hS q0 t0 ha ht (by rw [hi]; exact vp_in_nI hj hn) hd (fun H1 l1 hP1 hD1 hS1 => by
    rw [hi, nI_clamp (Nat.lt_trans hj hn)] at hP1 hD1
    exact h H1 l1 ls hl (hw ▸ hP1) (hw ▸ hD1) hS1)
theorem zx_alen (C : zx_C p s m args c cc nL own B D cl tys A) (q0 t0 : Nat) {a : Nat} {cA : ClassId} {x : vp_A} (ha : ws[q0]? = some (a, .inl (cA, x))) {ty : FieldType} (ht : tys[t0]? = some (cA, ty)) {v : Int32} (hv : Int32.ofNat x.1 = v) (hd : decode cc pc = .ok (.arraylength, 1)) (h : zx_At p l e R s m args below meth c Q D cl A nL lv ws kc ks (pc + 1) (.int v :: st)) : zx_At p l e R s m args below meth c Q D cl A nL lv ws kc ks pc (.ref a :: st) := fun H locs ls hl hP hD hS => va_alen C.hx C.hb C.k hP q0 t0 ha ht hv hd (h H locs ls hl hP hD hS)
theorem zx_newa (C : zx_C p s m args c cc nL own B D cl tys A) {atype : ArrayType} {ty : FieldType} (hty : newarray.typeOf atype = ty) (hp : ty = .byte ∨ ty = .int ∨ ty = .long) (harr : Cond.arrayClass ty ∈ B) (t0 : Nat) {cA : ClassId} (ht : tys[t0]? = some (cA, ty)) {z : Int32} {N : Nat} {a0 : vp_A} (ha : ∀ cA : ClassId, vp_cell cA a0 = arrV cA N (fun _ => defaultValue ty)) (hn : ¬ z < 0) (hN : z.toNatClampNeg = N) (hbytes : N * componentBytes ty ≤ 536870912) (h1 : kc + 1 ≤ R.cells) (h2 : ks + N ≤ R.slots) (hd : decode cc pc = .ok (.newarray atype, 2)) (h : ∀ q : Nat, zx_At p l e R s m args below meth c Q D cl A nL lv (ws ++ [(q, .inl (cA, a0))]) (kc + 1) (ks + N) (pc + 2) (.ref q :: st)) : zx_At p l e R s m args below meth c Q D cl A nL lv ws kc ks pc (.int z :: st) := fun H locs ls hl hP hD hS => by
  refine va_newa C.hx C.hb (by rw [hty]; exact C.w harr) hty C.k hP hD hS C.hA ha hn hN hbytes h1 h2 hd (fun q cB H1 hK1 hP1 hD1 hS1 => ?_)
  have e1 := (C.k.2 t0 _ ht).2
  have e2 := (hK1.2 tys.length (cB, ty) (by simp)).2
  have e3 : cB = cA := by
    rcases hp with rfl | rfl | rfl
    · exact Option.some.inj (Eq.trans (Eq.symm (show s.vm.findClass ("[" ++ FieldType.byte.toString) = some cB from e2)) (show s.vm.findClass ("[" ++ FieldType.byte.toString) = some cA from e1))
    · exact Option.some.inj (Eq.trans (Eq.symm (show s.vm.findClass ("[" ++ FieldType.int.toString) = some cB from e2)) (show s.vm.findClass ("[" ++ FieldType.int.toString) = some cA from e1))
    · exact Option.some.inj (Eq.trans (Eq.symm (show s.vm.findClass ("[" ++ FieldType.long.toString) = some cB from e2)) (show s.vm.findClass ("[" ++ FieldType.long.toString) = some cA from e1))
  subst e3
  exact h q H1 locs ls hl hP1 hD1 hS1
theorem zx_new (C : zx_C p s m args c cc nL own B D cl tys A) {Cn : String} {T : u_T} {N ci ix : Nat} (hin : ∀ w ∈ u_ws Cn T N, w ∈ B) (ty : Nat → FieldType) (hty : ∀ k, k < N → parseFieldDescriptor (T k).2.2.1 = some (ty k)) (hk : Cond.classLink own ix Cn ∈ B) (hi : Cond.instantiable Cn N ∈ B) (hini : Cond.initialized Cn ∈ B) (hc : cl[ci]? = some (Cn, T, N)) {fs : List Value} (hfs : ∀ j, j < N → defaultValue (ty j) = vp_V fs j) (h1 : kc + 1 ≤ R.cells) (h2 : ks + N ≤ R.slots) (hd : decode cc pc = .ok (.new ix, 3)) (h : ∀ q : Nat, zx_At p l e R s m args below meth c Q D cl A nL lv (ws ++ [(q, .inr (ci, fs))]) (kc + 1) (ks + N) (pc + 3) (.ref q :: st)) : zx_At p l e R s m args below meth c Q D cl A nL lv ws kc ks pc st := fun H locs ls hl hP hD hS => va_new C.hx C.hb C.ts hin ty hty C.ho (C.w hk) (C.w hi) (C.w hini) C.k hP hD hS C.hA hc hfs h1 h2 hd (fun q H1 hP1 hD1 hS1 => h q H1 locs ls hl hP1 hD1 hS1)
theorem zx_objInit (C : zx_C p s m args c cc nL own B D cl tys A) {ix a : Nat} (hk : Cond.methodLink own ix Lib.objectInit ∈ B) (hi : Cond.instanceMethod Lib.objectInit ∈ B) (hco : Cond.code Lib.objectInit ⟨#[0xb1]⟩ 1 none ∈ B) (hd : decode cc pc = .ok (.invokespecial ix, 3)) (hf : 1 ≤ R.frames) (hlo : (st.map fun v => v.category).sum + 12 ≤ R.locals) (h : zx_At p l e R s m args below meth c Q D cl A nL lv ws kc ks (pc + 3) st) : zx_At p l e R s m args below meth c Q D cl A nL lv ws kc ks pc (.ref a :: st) := fun H locs ls hl hP hD hS => W.objInit C.hx C.hb C.ho (C.w hk) (C.w hi) (C.w hco) rfl (by rw [C.hml]; exact hl.1) rfl hd hf (by show 2 * 0 + _ + 12 ≤ _; omega) (h H locs ls hl hP hD hS)
/-- a contract's end: the outcome, the cells, what was not touched, how much was made -/
def zx_ck : Outcome → Nat → Nat → Nat
  | .returned _, a, _ => a
  | .threw _, _, b => b
def zx_Q (below : List Frame) (s : State) (D : va_G) (cl : List vw_C) (w0 : va_W) (kr nr : Nat) (R : Room) (post : Outcome → va_W → Prop) : State → Prop := fun t => ∃ o, t.status = .running ∧ Ended t below o ∧ s.WarmedH t.vm ∧ (∃ L, s.sameButNew ({ t with vm := s.vm } : State) L (zx_ck o kr R.cells) (zx_ck o nr R.slots) ∧ ∀ q ∈ L, va_A w0 s.heap.size q.base) ∧ (∃ ws', post o ws' ∧ va_P D cl ws' t.heap ∧ va_D (va_A w0 s.heap.size) ws') ∧ va_F (va_A w0 s.heap.size) s t
def zx_Qc (D : va_G) (cl : List vw_C) (w0 : va_W) (sz : Nat) (post : Outcome → va_W → Prop) : Array Value → State → Outcome → State → Prop := fun _ st o t => (∃ ws', post o ws' ∧ va_P D cl ws' t.heap ∧ va_D (va_A w0 sz) ws') ∧ va_F (va_A w0 sz) st t
theorem zx_Q.of {below : List Frame} {s : State} {D : va_G} {cl : List vw_C} {w0 : va_W} {kr nr : Nat} {R : Room} {post : Outcome → va_W → Prop} {args : Array Value} {kc ks : Nat} {t : State} (hk : kc ≤ kr) (hs : ks ≤ nr) (h : MQ below (zx_Qc D cl w0 s.heap.size post) args s kc ks (va_A w0 s.heap.size) t) : zx_Q below s D cl w0 kr nr R post t := by
  obtain ⟨o, h1, h2, ⟨h3, h4⟩, L, ⟨⟨v, rfl⟩, h5, h6⟩, h7⟩ := h
  exact ⟨.returned v, h1, h2, h5, ⟨L, h6.mono hk hs, h7⟩, h3, h4⟩
theorem zx_iret {w0 : va_W} {kr nr : Nat} {post : Outcome → va_W → Prop} (C : zx_C p s m args c cc nL own B D cl tys (va_A w0 s.heap.size)) {v : Int32} (hr : meth.sig.returnType = some .int) (hlk : meth.locks = false) (hk : kc ≤ kr) (hs : ks ≤ nr) (hd : decode cc pc = .ok (.ireturn, 1)) (hq : post (.returned (some (.int v))) ws) : zx_At p l e R s m args below meth c (zx_Q below s D cl w0 kr nr R post) D cl (va_A w0 s.heap.size) nL lv ws kc ks pc [.int v] := fun H locs ls hl hP hD hS T hT X => by
  obtain ⟨t, a1, b1⟩ := W.iret (Qc := zx_Qc D cl w0 s.heap.size post) (free := va_A w0 s.heap.size) C.hx C.hb hr (fun t ht hW => ⟨⟨ws, hq, by rw [ht]; exact hP, hD⟩, hS.F ht⟩) hS.2.2 (ls := ls) hd hlk T hT X
  exact ⟨t, a1, zx_Q.of hk hs b1⟩
theorem zx_lret {w0 : va_W} {kr nr : Nat} {post : Outcome → va_W → Prop} (C : zx_C p s m args c cc nL own B D cl tys (va_A w0 s.heap.size)) {v : Int64} (hr : meth.sig.returnType = some .long) (hlk : meth.locks = false) (hk : kc ≤ kr) (hs : ks ≤ nr) (hd : decode cc pc = .ok (.lreturn, 1)) (hq : post (.returned (some (.long v))) ws) : zx_At p l e R s m args below meth c (zx_Q below s D cl w0 kr nr R post) D cl (va_A w0 s.heap.size) nL lv ws kc ks pc [.long v] := fun H locs ls hl hP hD hS T hT X => by
  obtain ⟨t, a1, b1⟩ := W.lret (Qc := zx_Qc D cl w0 s.heap.size post) (free := va_A w0 s.heap.size) C.hx C.hb hr (fun t ht hW => ⟨⟨ws, hq, by rw [ht]; exact hP, hD⟩, hS.F ht⟩) hS.2.2 (ls := ls) hd hlk T hT X
  exact ⟨t, a1, zx_Q.of hk hs b1⟩
theorem zx_vret {w0 : va_W} {kr nr : Nat} {post : Outcome → va_W → Prop} (C : zx_C p s m args c cc nL own B D cl tys (va_A w0 s.heap.size)) (hr : meth.sig.returnType = none) (hlk : meth.locks = false) (hk : kc ≤ kr) (hs : ks ≤ nr) (hd : decode cc pc = .ok (.return_, 1)) (hq : post (.returned (none)) ws) : zx_At p l e R s m args below meth c (zx_Q below s D cl w0 kr nr R post) D cl (va_A w0 s.heap.size) nL lv ws kc ks pc [] := fun H locs ls hl hP hD hS T hT X => by
  obtain ⟨t, a1, b1⟩ := W.vret (Qc := zx_Qc D cl w0 s.heap.size post) (free := va_A w0 s.heap.size) C.hx C.hb hr (fun t ht hW => ⟨⟨ws, hq, by rw [ht]; exact hP, hD⟩, hS.F ht⟩) hS.2.2 (ls := ls) hd hlk T hT X
  exact ⟨t, a1, zx_Q.of hk hs b1⟩
theorem zx_zret {w0 : va_W} {kr nr : Nat} {post : Outcome → va_W → Prop} (C : zx_C p s m args c cc nL own B D cl tys (va_A w0 s.heap.size)) {v : Int32} (hr : meth.sig.returnType = some .boolean) (hv : v = 0 ∨ v = 1) (hlk : meth.locks = false) (hk : kc ≤ kr) (hs : ks ≤ nr) (hd : decode cc pc = .ok (.ireturn, 1)) (hq : post (.returned (some (.int v))) ws) : zx_At p l e R s m args below meth c (zx_Q below s D cl w0 kr nr R post) D cl (va_A w0 s.heap.size) nL lv ws kc ks pc [.int v] := fun H locs ls hl hP hD hS T hT X => by
  obtain ⟨t, a1, b1⟩ := W.zret (Qc := zx_Qc D cl w0 s.heap.size post) (free := va_A w0 s.heap.size) C.hx C.hb hr (by rcases hv with rfl | rfl <;> decide) (fun t ht hW => ⟨⟨ws, hq, by rw [ht]; exact hP, hD⟩, hS.F ht⟩) hS.2.2 (ls := ls) hd hlk T hT X
  exact ⟨t, a1, zx_Q.of hk hs b1⟩
/-- an exception leaves the method: no handler covers pc -/
theorem zx_leave {w0 : va_W} {kr nr : Nat} {post : Outcome → va_W → Prop} {x : Nat} (hlk : meth.locks = false) (hout : ∀ h ∈ c.exceptionTable.toList, covers h pc = false) (hk : kc ≤ R.cells) (hs : ks ≤ R.slots) (hq : post (.threw x) ws) : zx_Th p l e R s m args below meth c (zx_Q below s D cl w0 kr nr R post) D cl (va_A w0 s.heap.size) nL lv ws kc ks pc st x := fun H locs ls hl hP hD hS T hT X => by
  obtain ⟨h1, h2, h3, h4, h5⟩ := X.leaveThrown x (g := F0 m pc ls st) rfl rfl rfl hout hlk
  exact ⟨_, h1, .threw x, h2, h3, h4, ⟨locs, h5.mono hk hs, hS.2.2⟩, ⟨ws, hq, by show va_P D cl ws T.heap; rw [hT]; exact hP, hD⟩, hS.F hT⟩
/-- the contract of a method: from cells w0 and arguments av it ends with 'post' -/
def zx_K (l : Launch) (B : List Cond) (D : va_G) (cl : List vw_C) (tys : List (ClassId × FieldType)) (y : MethodName) (cc : ByteArray) (nL : Nat) (ret : Option FieldType) (hs : List (Nat × Nat × Nat × Nat)) (kr nr : Nat) (R : Room) (av : List Value) (w0 : va_W) (post : Outcome → va_W → Prop) : Prop :=
  ∀ (p : Program) (e : Env) (s : State) (m : MethodId) (below : List Frame) (meth : Method) (c : Code), p.tables.exec = Jvm.exec → c.code = cc → c.maxLocals = nL → meth.sig.returnType = ret → meth.locks = false → c.exceptionTable.toList.map (fun h => (h.startPc, h.endPc, h.handlerPc, h.catchType)) = hs → s.vm.findClass y.cls = some m.cls → meth.name = y.name → zx_G B D cl tys s → (∀ w ∈ B, zx_good w) → va_P D cl w0 s.heap → va_D (fun _ => True) w0 →
    W p l e R s m av.toArray below meth c s.heap [] 0 0 (zx_Q below s D cl w0 kr nr R post) (entryFrame m av.toArray nL)
theorem zx_K.mk {y : MethodName} {ret : Option FieldType} {hs : List (Nat × Nat × Nat × Nat)} {kr nr : Nat} {av : List Value} {w0 : va_W} {post : Outcome → va_W → Prop} (hle : (lg_sl av).length ≤ nL)
    (body : ∀ (p : Program) (e : Env) (s : State) (m : MethodId) (below : List Frame) (meth : Method) (c : Code), zx_C p s m av.toArray c cc nL y.cls B D cl tys (va_A w0 s.heap.size) → meth.sig.returnType = ret → meth.locks = false → c.exceptionTable.toList.map (fun h => (h.startPc, h.endPc, h.handlerPc, h.catchType)) = hs → meth.name = y.name →
      zx_At p l e R s m av.toArray below meth c (zx_Q below s D cl w0 kr nr R post) D cl (va_A w0 s.heap.size) nL (lv_args 0 av) w0 0 0 0 []) : zx_K l B D cl tys y cc nL ret hs kr nr R av w0 post := by
  intro p e s m below meth c hx hb hml hr hlk htab ho hnm hG hB hP hD
  rw [lg_entry_eq]
  exact body p e s m below meth c ⟨hx, hb, hml, ho, hG, hB, fun q h => Or.inr h, fun a cell h1 h2 => zx_notA hP h1 h2⟩ hr hlk htab hnm s.heap [] _ (lv_entry av hle) hP hD.self va_S.rf
def zx_after (T : State) (g : JFrame) : Outcome → State
  | .returned v => T.setTop { g with pc := g.pc + 3, stack := v.toList ++ g.stack }
  | .threw x => (T.setTop g).pushFrame (.throwing x)
set_option maxHeartbeats 1000000 in
/-- a callee's contract, at a call -/
theorem zx_core {T : State} {locs : List Loc} (X : Stand p l e R s m args below meth c T locs kc ks) (C : zx_C p s m args c cc nL own B D cl tys A) (hS : va_S A s.heap T.heap locs) {y : MethodName} {mk : MethodId} {methM : Method} {cM : Code} {bytes : ByteArray} {maxL : Nat} {ret : Option FieldType} {hs : List (Nat × Nat × Nat × Nat)} {kr nr : Nat} {R' : Room} {av : List Value} {wc : va_W} {post : Outcome → va_W → Prop}
    (hn : s.methodNamed? y = some mk) (hm : s.vm.method? mk = some methM) (hcM : methM.code = some cM) (hbM : cM.code = bytes) (hlM : cM.maxLocals = maxL) (hrM : methM.sig.returnType = ret) (hkM : methM.locks = false) (htM : cM.exceptionTable.toList.map (fun h => (h.startPc, h.endPc, h.handlerPc, h.catchType)) = hs) (hpl : plainName y.cls = true)
    (hM : zx_K l B D cl tys y bytes maxL ret hs kr nr R' av wc post) (hPc : va_P D cl wc T.heap) (hDc : va_D (fun _ => True) wc) {g : JFrame} (hg : g.method = m) (hsize : g.locals.size = c.maxLocals) {ig : Instr} (hdg : decode c.code g.pc = .ok (ig, 3))
    (hfr : R'.frames + 1 ≤ R.frames) (hlo : 2 * g.monitorRoom + (g.stack.map fun v => v.category).sum + (maxL + 11) + R'.locals ≤ R.locals) (hce : kc + R'.cells ≤ R.cells) (hsl : ks + R'.slots ≤ R.slots) :
    ∃ (o : Outcome) (T' : State) (L : List Loc) (ws' : va_W), Stand p l e R s m args below meth c T' (locs ++ L) (kc + zx_ck o kr R'.cells) (ks + zx_ck o nr R'.slots) ∧ (∀ q ∈ L, va_A wc T.heap.size q.base) ∧ post o ws' ∧ va_P D cl ws' T'.heap ∧ va_D (va_A wc T.heap.size) ws' ∧ T.heap.size ≤ T'.heap.size ∧ (∀ q : Nat, q < T.heap.size → ¬ va_A wc T.heap.size q → T'.heap[q]? = T.heap[q]?) ∧
      ∀ acts, Steps p.tables e below (doInvoke e (T.setTop g) acts mk av.toArray).1 (zx_after T' g o) := by
  subst hlM
  have hmT : T.vm.method? mk = some methM := by rw [X.warmed.alike.method?]; exact hm
  have hpk : T.plainMethod mk := State.plainMethod.of_named (plainFor_of_name hpl) (X.named hn) hmT
  obtain ⟨Y, hin⟩ := X.into hg hsize hdg av.toArray (R' := R') hmT hcM hkM hpk hfr hlo hce hsl
  have hfc : (T.calling g mk av.toArray).vm.findClass y.cls = some mk.cls := by
    show T.vm.findClass y.cls = some mk.cls
    exact findClass_of_methodNamed (X.named hn)
  have hG : zx_G B D cl tys (T.calling g mk av.toArray) := zx_G.to C.hB (s := s) X.warmed (fun a cell h1 h2 => by
    show T.heap[a]? = some cell
    rw [hS.2.1 a (Array.getElem?_eq_some_iff.mp h1).1 (C.hN a cell h1 h2)]
    exact h1) C.g
  obtain ⟨t, hst, o, hrun, hend, hWt, ⟨L, hsame, hL⟩, ⟨ws', hpost, hP', hD'⟩, hF⟩ := hM p e (T.calling g mk av.toArray) mk (.java g :: below) methM cM C.hx hbM rfl hrM hkM htM hfc (name_of_methodNamed hn hm).1 hG C.hB hPc hDc ((T.setTop g).pushFrame (.java (entryFrame mk av.toArray cM.maxLocals))) rfl Y
  cases o with
  | returned v =>
    obtain ⟨T', X', hW', hB', ht⟩ := X.outOf hg hdg hend hWt hsame
    have hh : t.heap = T'.heap := by rw [ht]; rfl
    refine ⟨.returned v, T', L, ws', X', hL, hpost, hh ▸ hP', hD', hh ▸ hF.1, fun q h1 h2 => by rw [← hh]; exact hF.2 q h1 h2, fun acts => ?_⟩
    rw [hin acts]
    show Steps p.tables e below _ (T'.setTop { g with pc := g.pc + 3, stack := v.toList ++ g.stack })
    rw [← ht]
    exact zx_weaken (mid := [.java g]) hst
  | threw x =>
    obtain ⟨T', X', hW', hB', ht⟩ := X.outOfThrown hg hend hWt hsame
    have hh : t.heap = T'.heap := by rw [ht]; rfl
    refine ⟨.threw x, T', L, ws', X', hL, hpost, hh ▸ hP', hD', hh ▸ hF.1, fun q h1 h2 => by rw [← hh]; exact hF.2 q h1 h2, fun acts => ?_⟩
    rw [hin acts]
    show Steps p.tables e below _ ((T'.setTop g).pushFrame (.throwing x))
    rw [← ht]
    exact zx_weaken (mid := [.java g]) hst
/-- behind a call -/
def zx_Af (p : Program) (l : Launch) (e : Env) (R : Room) (s : State) (m : MethodId) (args : Array Value) (below : List Frame) (meth : Method) (c : Code) (Q : State → Prop) (D : va_G) (cl : List vw_C) (A : Nat → Prop) (nL : Nat) (lv : List (Nat × Value)) (ws : va_W) (kc ks pc : Nat) (st : List Value) : Outcome → Prop
  | .returned v => zx_At p l e R s m args below meth c Q D cl A nL lv ws kc ks (pc + 3) (v.toList ++ st)
  | .threw x => zx_Th p l e R s m args below meth c Q D cl A nL lv ws kc ks pc st x
/-- the words of a callee -/
def zx_cw (s : State) (y : MethodName) (mk : MethodId) (bytes : ByteArray) (maxL : Nat) (ret : Option FieldType) (hs : List (Nat × Nat × Nat × Nat)) : Prop := ∃ (methM : Method) (cM : Code), s.methodNamed? y = some mk ∧ s.vm.method? mk = some methM ∧ methM.code = some cM ∧ cM.code = bytes ∧ cM.maxLocals = maxL ∧ methM.sig.returnType = ret ∧ methM.locks = false ∧ cM.exceptionTable.toList.map (fun h => (h.startPc, h.endPc, h.handlerPc, h.catchType)) = hs ∧ parseMethodDescriptor y.desc = some methM.sig
theorem zx_cw.of {y : MethodName} {bytes : ByteArray} {maxL : Nat} {ret : Option FieldType} (h : (Cond.code y bytes maxL ret).before args s = true) : ∃ mk, zx_cw s y mk bytes maxL ret [] := by
  obtain ⟨mk, hn⟩ := Cond.code_named h
  obtain ⟨meth, c, h1, h2, h3, h4, h5, h6, h7, h8⟩ := Cond.code_spec hn h
  exact ⟨mk, meth, c, hn, h1, h2, h3, h4, h5, h6, by rw [Array.isEmpty_iff.mp h7]; rfl, h8⟩
theorem zx_cw.ofW {y : MethodName} {bytes : ByteArray} {maxL : Nat} {ret : Option FieldType} {hs : List (Nat × Nat × Nat × Nat)} (h : (Cond.codeWith y bytes maxL ret hs).before args s = true) : ∃ mk, zx_cw s y mk bytes maxL ret hs := by
  obtain ⟨mk, meth, c, hn, h1, h2, h3, h4, h5, h6, h7, h8⟩ := Cond.codeWith_spec h
  exact ⟨mk, meth, c, hn, h1, h2, h3, h4, h6, h7, h5, h8⟩
/-- a call whose first step (the linking) is known -/
theorem zx_go (C : zx_C p s m args c cc nL own B D cl tys A) {y : MethodName} {mk : MethodId} {bytes : ByteArray} {maxL : Nat} {ret : Option FieldType} {hs : List (Nat × Nat × Nat × Nat)} {kr nr : Nat} {R' : Room} {av : List Value} {wc wr : va_W} {post : Outcome → va_W → Prop} {ig : Instr} {st0 : List Value} (hw : zx_cw s y mk bytes maxL ret hs) (hpl : plainName y.cls = true)
    (hM : zx_K l B D cl tys y bytes maxL ret hs kr nr R' av wc post) (isC isR : List Nat) (hC : isC.map (fun i => ws[i]?) = wc.map some) (hR : isR.map (fun i => ws[i]?) = wr.map some) (hnC : va_nd isC = true) (hnR : va_nd isR = true) (hdis : ∀ i ∈ isR, i ∉ isC)
    (hfr : R'.frames + 1 ≤ R.frames) (hlo : (st.map fun v => v.category).sum + (maxL + 11) + R'.locals ≤ R.locals) (hce : kc + R'.cells ≤ R.cells) (hsl : ks + R'.slots ≤ R.slots) (hd : decode cc pc = .ok (ig, 3))
    (hstep : ∀ (T : State) (locs : List Loc) (ls : Array Slot), va_P D cl ws T.heap → Stand p l e R s m args below meth c T locs kc ks → ∃ vm', Stand p l e R s m args below meth c (T.setVm vm') locs kc ks ∧ ∀ target, (∀ acts, Steps p.tables e below (doInvoke e ((T.setVm vm').setTop (F0 m pc ls st)) acts mk av.toArray).1 target) → Steps p.tables e below (T.setTop (F0 m pc ls st0)) target)
    (kk : ∀ (o : Outcome) (w1 : va_W), post o w1 → zx_Af p l e R s m args below meth c Q D cl A nL lv (wr ++ w1) (kc + zx_ck o kr R'.cells) (ks + zx_ck o nr R'.slots) pc st o) : zx_At p l e R s m args below meth c Q D cl A nL lv ws kc ks pc st0 := by
  intro H locs ls hl hP hD hS T hT X
  subst hT
  obtain ⟨vm', X1, hgo⟩ := hstep T locs ls hP X
  obtain ⟨methM, cM, hn, hm, hcM, hbM, hlM, hrM, hkM, htM, -⟩ := hw
  have hPc : va_P D cl wc T.heap := hP.sub isC (by
    have h1 : isC.filterMap (fun i => ws[i]?) = (isC.map (fun i => ws[i]?)).filterMap id := by rw [List.filterMap_map]; rfl
    rw [h1, hC, List.filterMap_map]
    exact List.filterMap_some)
  have hDc := hD.sub isC hnC hC
  have hFc := va_free (wc := wc) hD hS C.hA isC hC
  obtain ⟨o, T', L, w1, X', hL, hpost, hP1, hD1, hz, hk, hst⟩ := zx_core X1 C (show va_S A s.heap (T.setVm vm').heap locs from hS) hn hm hcM hbM hlM hrM hkM htM hpl hM (show va_P D cl wc (T.setVm vm').heap from hPc) (hDc.weaken (fun _ _ _ _ => trivial)) (g := F0 m pc ls st) rfl (by rw [C.hml]; exact hl.1) (by rw [C.hb]; exact hd) hfr (by show 2 * 0 + (st.map fun v => v.category).sum + (maxL + 11) + R'.locals ≤ R.locals; omega) hce hsl
  obtain ⟨hP2, hD2⟩ := va_join (wr := wr) (w1 := w1) hP hD isC isR hC hR hnR hdis hk hFc hP1 hD1
  have hS2 : va_S A s.heap T'.heap (locs ++ L) := ⟨Nat.le_trans hS.1 hz, fun q h1 h2 => by rw [hk q (Nat.lt_of_lt_of_le h1 hS.1) (fun z => h2 (hFc q z))]; exact hS.2.1 q h1 h2, fun q hq => by
    rcases List.mem_append.mp hq with h | h
    · exact hS.2.2 q h
    · exact hFc _ (hL q h)⟩
  have hk9 := kk o w1 hpost
  cases o with
  | returned v =>
    obtain ⟨t, a1, b1⟩ := hk9 T'.heap (locs ++ L) ls hl hP2 hD2 hS2 T' rfl X'
    exact ⟨t, (hgo _ hst).trans a1, b1⟩
  | threw x =>
    obtain ⟨t, a1, b1⟩ := hk9 T'.heap (locs ++ L) ls hl hP2 hD2 hS2 T' rfl X'
    exact ⟨t, (hgo _ hst).trans a1, b1⟩
theorem zx_ri {r : Int32} {kr bk nr bn k2 n2 : Nat} (e1 : kc + kr = k2) (e2 : ks + nr = n2) (h : zx_At p l e R s m args below meth c Q D cl A nL lv ws k2 n2 (pc + 3) (.int r :: st)) : zx_Af p l e R s m args below meth c Q D cl A nL lv ws (kc + zx_ck (.returned (some (.int r))) kr bk) (ks + zx_ck (.returned (some (.int r))) nr bn) pc st (.returned (some (.int r))) := by subst e1; subst e2; exact h
theorem zx_rl {r : Int64} {kr bk nr bn k2 n2 : Nat} (e1 : kc + kr = k2) (e2 : ks + nr = n2) (h : zx_At p l e R s m args below meth c Q D cl A nL lv ws k2 n2 (pc + 3) (.long r :: st)) : zx_Af p l e R s m args below meth c Q D cl A nL lv ws (kc + zx_ck (.returned (some (.long r))) kr bk) (ks + zx_ck (.returned (some (.long r))) nr bn) pc st (.returned (some (.long r))) := by subst e1; subst e2; exact h
theorem zx_rv {kr bk nr bn k2 n2 : Nat} (e1 : kc + kr = k2) (e2 : ks + nr = n2) (h : zx_At p l e R s m args below meth c Q D cl A nL lv ws k2 n2 (pc + 3) st) : zx_Af p l e R s m args below meth c Q D cl A nL lv ws (kc + zx_ck (.returned none) kr bk) (ks + zx_ck (.returned none) nr bn) pc st (.returned none) := by subst e1; subst e2; exact h
theorem zx_rt {x : Nat} {kr bk nr bn k2 n2 : Nat} (e1 : kc + bk = k2) (e2 : ks + bn = n2) (h : zx_Th p l e R s m args below meth c Q D cl A nL lv ws k2 n2 pc st x) : zx_Af p l e R s m args below meth c Q D cl A nL lv ws (kc + zx_ck (.threw x) kr bk) (ks + zx_ck (.threw x) nr bn) pc st (.threw x) := by subst e1; subst e2; exact h
/-- a contract that says less -/
theorem zx_K.mono {y : MethodName} {ret : Option FieldType} {hs : List (Nat × Nat × Nat × Nat)} {kr nr : Nat} {av : List Value} {w0 : va_W} {post post' : Outcome → va_W → Prop} (h : zx_K l B D cl tys y cc nL ret hs kr nr R av w0 post) (hp : ∀ o w, post o w → post' o w) : zx_K l B D cl tys y cc nL ret hs kr nr R av w0 post' := by
  intro p e s m below meth c h1 h2 h3 h4 h5 h6 h7 h8 h9 h10 h11 h12 T hT X
  obtain ⟨t, a1, o, b1, b2, b3, b4, ⟨w1, b5, b6⟩, b7⟩ := h p e s m below meth c h1 h2 h3 h4 h5 h6 h7 h8 h9 h10 h11 h12 T hT X
  exact ⟨t, a1, o, b1, b2, b3, b4, ⟨w1, hp o w1 b5, b6⟩, b7⟩
/-- a method without handlers -/
theorem zx_noTab {c : Code} (h : c.exceptionTable.toList.map (fun h => (h.startPc, h.endPc, h.handlerPc, h.catchType)) = []) (pc : Nat) : ∀ h ∈ c.exceptionTable.toList, covers h pc = false := by
  rw [List.map_eq_nil_iff.mp h]
  intro x hx
  cases hx
end ZX
end
section
section ZY
variable {p : Program} {l : Launch} {e : Env} {R : Room} {s : State} {m : MethodId} {args : Array Value} {below : List Frame} {meth : Method} {c : Code} {Q : State → Prop}
variable {cc : ByteArray} {nL : Nat} {own : String} {B : List Cond} {D : va_G} {cl : List vw_C} {tys : List (ClassId × FieldType)} {A : Nat → Prop}
variable {lv lv' : List (Nat × Value)} {ws ws' : va_W} {kc ks pc : Nat} {st : List Value}
theorem zx_callS (C : zx_C p s m args c cc nL own B D cl tys A) {y : MethodName} {bytes : ByteArray} {maxL ix : Nat} {ret : Option FieldType} {hs : List (Nat × Nat × Nat × Nat)} {kr nr : Nat} {R' : Room} {av : List Value} {wc wr : va_W} {post : Outcome → va_W → Prop} {st0 : List Value} (hw : ∃ mk, zx_cw s y mk bytes maxL ret hs) (hpl : plainName y.cls = true) (hy : y.cls ≠ "java/lang/invoke/MethodHandle" ∧ y.cls ≠ "java/lang/invoke/VarHandle") (hstt : Cond.static y ∈ B) (hini : Cond.initialized y.cls ∈ B) (hlk : Cond.methodLink own ix y ∈ B) (hlen : (parseMethodDescriptor y.desc).map (fun d => d.parameters.length) = some av.length) (hM : zx_K l B D cl tys y bytes maxL ret hs kr nr R' av wc post) (hst : st0 = av.reverse ++ st) (isC isR : List Nat) (hC : isC.map (fun i => ws[i]?) = wc.map some) (hR : isR.map (fun i => ws[i]?) = wr.map some) (hnC : va_nd isC = true) (hnR : va_nd isR = true) (hdis : ∀ i ∈ isR, i ∉ isC) (hfr : R'.frames + 1 ≤ R.frames) (hlo : (st.map fun v => v.category).sum + (maxL + 11) + R'.locals ≤ R.locals) (hce : kc + R'.cells ≤ R.cells) (hsl : ks + R'.slots ≤ R.slots) (hd : decode cc pc = .ok (.invokestatic ix, 3)) (kk : ∀ (o : Outcome) (w1 : va_W), post o w1 → zx_Af p l e R s m args below meth c Q D cl A nL lv (wr ++ w1) (kc + zx_ck o kr R'.cells) (ks + zx_ck o nr R'.slots) pc st o) : zx_At p l e R s m args below meth c Q D cl A nL lv ws kc ks pc st0 := by
  obtain ⟨mk, hw⟩ := hw
  refine zx_go C hw hpl hM isC isR hC hR hnC hnR hdis hfr hlo hce hsl hd (fun T locs ls hP X => ?_) kk
  obtain ⟨methM, cM, hn, hm, -, -, -, -, -, -, hsig⟩ := hw
  obtain ⟨kP, hkP, -⟩ := className_of_methodNamed hn
  rw [hsig] at hlen
  exact X.invokestatic C.hx C.ho (C.w hlk) hn hm (Cond.static_spec hn hm (C.w hstt)) hkP (Cond.initialized_spec (findClass_of_methodNamed hn) hkP (C.w hini)) hy (g := F0 m pc ls st0) rfl (argsL := av) (rest := st) (Option.some.inj hlen).symm hst (by rw [C.hb]; exact hd)
theorem zx_callSN (C : zx_C p s m args c cc nL own B D cl tys A) {y : MethodName} {bytes : ByteArray} {maxL ix : Nat} {ret : Option FieldType} {hs : List (Nat × Nat × Nat × Nat)} {kr nr : Nat} {R' : Room} {av : List Value} {wc wr : va_W} {post : Outcome → va_W → Prop} {st0 : List Value} {host : String} (hw : ∃ mk, zx_cw s y mk bytes maxL ret hs) (hpl : plainName y.cls = true) (hy : y.cls ≠ "java/lang/invoke/MethodHandle" ∧ y.cls ≠ "java/lang/invoke/VarHandle") (hstt : Cond.static y ∈ B) (hini : Cond.initialized y.cls ∈ B) (hlk : Cond.methodLinkNest own ix y host ∈ B) (hlen : (parseMethodDescriptor y.desc).map (fun d => d.parameters.length) = some av.length) (hM : zx_K l B D cl tys y bytes maxL ret hs kr nr R' av wc post) (hst : st0 = av.reverse ++ st) (isC isR : List Nat) (hC : isC.map (fun i => ws[i]?) = wc.map some) (hR : isR.map (fun i => ws[i]?) = wr.map some) (hnC : va_nd isC = true) (hnR : va_nd isR = true) (hdis : ∀ i ∈ isR, i ∉ isC) (hfr : R'.frames + 1 ≤ R.frames) (hlo : (st.map fun v => v.category).sum + (maxL + 11) + R'.locals ≤ R.locals) (hce : kc + R'.cells ≤ R.cells) (hsl : ks + R'.slots ≤ R.slots) (hd : decode cc pc = .ok (.invokestatic ix, 3)) (kk : ∀ (o : Outcome) (w1 : va_W), post o w1 → zx_Af p l e R s m args below meth c Q D cl A nL lv (wr ++ w1) (kc + zx_ck o kr R'.cells) (ks + zx_ck o nr R'.slots) pc st o) : zx_At p l e R s m args below meth c Q D cl A nL lv ws kc ks pc st0 := by
  obtain ⟨mk, hw⟩ := hw
  refine zx_go C hw hpl hM isC isR hC hR hnC hnR hdis hfr hlo hce hsl hd (fun T locs ls hP X => ?_) kk
  obtain ⟨methM, cM, hn, hm, -, -, -, -, -, -, hsig⟩ := hw
  obtain ⟨kP, hkP, -⟩ := className_of_methodNamed hn
  rw [hsig] at hlen
  exact X.invokestaticNest C.hx C.ho (C.w hlk) hn hm (Cond.static_spec hn hm (C.w hstt)) hkP (Cond.initialized_spec (findClass_of_methodNamed hn) hkP (C.w hini)) hy (g := F0 m pc ls st0) rfl (argsL := av) (rest := st) (Option.some.inj hlen).symm hst (by rw [C.hb]; exact hd)
theorem zx_callV (C : zx_C p s m args c cc nL own B D cl tys A) {y : MethodName} {bytes : ByteArray} {maxL ix : Nat} {ret : Option FieldType} {hs : List (Nat × Nat × Nat × Nat)} {kr nr : Nat} {R' : Room} {av : List Value} {wc wr : va_W} {post : Outcome → va_W → Prop} {st0 : List Value} {b ci q0 : Nat} {fs : List Value} {q9 : vw_C} {As : List Value} (hw : ∃ mk, zx_cw s y mk bytes maxL ret hs) (hpl : plainName y.cls = true) (hy : y.cls ≠ "java/lang/invoke/MethodHandle" ∧ y.cls ≠ "java/lang/invoke/VarHandle") (hin : Cond.instanceMethod y ∈ B) (hse : Cond.selects y.cls y y ∈ B) (hlk : Cond.methodLink own ix y ∈ B) (hlen : (parseMethodDescriptor y.desc).map (fun d => d.parameters.length) = some As.length) (hav : av = .ref b :: As) (he : ws[q0]? = some (b, .inr (ci, fs))) (hcl : cl[ci]? = some q9) (hq9 : q9.1 = y.cls) (hM : zx_K l B D cl tys y bytes maxL ret hs kr nr R' av wc post) (hst : st0 = As.reverse ++ .ref b :: st) (isC isR : List Nat) (hC : isC.map (fun i => ws[i]?) = wc.map some) (hR : isR.map (fun i => ws[i]?) = wr.map some) (hnC : va_nd isC = true) (hnR : va_nd isR = true) (hdis : ∀ i ∈ isR, i ∉ isC) (hfr : R'.frames + 1 ≤ R.frames) (hlo : (st.map fun v => v.category).sum + (maxL + 11) + R'.locals ≤ R.locals) (hce : kc + R'.cells ≤ R.cells) (hsl : ks + R'.slots ≤ R.slots) (hd : decode cc pc = .ok (.invokevirtual ix, 3)) (kk : ∀ (o : Outcome) (w1 : va_W), post o w1 → zx_Af p l e R s m args below meth c Q D cl A nL lv (wr ++ w1) (kc + zx_ck o kr R'.cells) (ks + zx_ck o nr R'.slots) pc st o) : zx_At p l e R s m args below meth c Q D cl A nL lv ws kc ks pc st0 := by
  subst hav
  obtain ⟨mk, hw⟩ := hw
  refine zx_go C hw hpl hM isC isR hC hR hnC hnR hdis hfr hlo hce hsl hd (fun T locs ls hP X => ?_) kk
  obtain ⟨methM, cM, hn, hm, -, -, -, -, -, -, hsig⟩ := hw
  obtain ⟨mk2, methM2, hn2, hm2, hstM, habM⟩ := Cond.instanceMethod_spec (C.w hin)
  cases hn.symm.trans hn2
  cases hm.symm.trans hm2
  obtain ⟨cellB, hcB, hoB, hclB⟩ := va_recv C.k hP hcl he
  rw [hq9] at hclB
  obtain ⟨c2, r2, m2, q1, q2, q3, q4, kP, hkP, hkPi⟩ := Cond.selects_spec (C.w hse)
  cases hclB.symm.trans q1
  cases (State.methodFound?_of_named hn hy).symm.trans q2
  cases hn.symm.trans q3
  have hselP : selectMethod e.platform s.vm cellB.cls mk = .method mk := by rw [Launch.admits_selectMethod X.admits]; exact q4
  rw [hsig] at hlen
  exact X.invokevirtual C.hx C.ho (C.w hlk) hn hm hstM hkP hkPi hy (a := b) (cell := cellB) hcB (fun z h => by rw [h] at hoB; cases hoB) hselP hm habM hkP hkPi (g := F0 m pc ls st0) rfl (argsL := As) (rest := st) (Option.some.inj hlen).symm hst (by rw [C.hb]; exact hd)
theorem zx_callVN (C : zx_C p s m args c cc nL own B D cl tys A) {y : MethodName} {bytes : ByteArray} {maxL ix : Nat} {ret : Option FieldType} {hs : List (Nat × Nat × Nat × Nat)} {kr nr : Nat} {R' : Room} {av : List Value} {wc wr : va_W} {post : Outcome → va_W → Prop} {st0 : List Value} {host : String} {b ci q0 : Nat} {fs : List Value} {q9 : vw_C} {As : List Value} (hw : ∃ mk, zx_cw s y mk bytes maxL ret hs) (hpl : plainName y.cls = true) (hy : y.cls ≠ "java/lang/invoke/MethodHandle" ∧ y.cls ≠ "java/lang/invoke/VarHandle") (hin : Cond.instanceMethod y ∈ B) (hse : Cond.selects y.cls y y ∈ B) (hlk : Cond.methodLinkNest own ix y host ∈ B) (hlen : (parseMethodDescriptor y.desc).map (fun d => d.parameters.length) = some As.length) (hav : av = .ref b :: As) (he : ws[q0]? = some (b, .inr (ci, fs))) (hcl : cl[ci]? = some q9) (hq9 : q9.1 = y.cls) (hM : zx_K l B D cl tys y bytes maxL ret hs kr nr R' av wc post) (hst : st0 = As.reverse ++ .ref b :: st) (isC isR : List Nat) (hC : isC.map (fun i => ws[i]?) = wc.map some) (hR : isR.map (fun i => ws[i]?) = wr.map some) (hnC : va_nd isC = true) (hnR : va_nd isR = true) (hdis : ∀ i ∈ isR, i ∉ isC) (hfr : R'.frames + 1 ≤ R.frames) (hlo : (st.map fun v => v.category).sum + (maxL + 11) + R'.locals ≤ R.locals) (hce : kc + R'.cells ≤ R.cells) (hsl : ks + R'.slots ≤ R.slots) (hd : decode cc pc = .ok (.invokevirtual ix, 3)) (kk : ∀ (o : Outcome) (w1 : va_W), post o w1 → zx_Af p l e R s m args below meth c Q D cl A nL lv (wr ++ w1) (kc + zx_ck o kr R'.cells) (ks + zx_ck o nr R'.slots) pc st o) : zx_At p l e R s m args below meth c Q D cl A nL lv ws kc ks pc st0 := by
  subst hav
  obtain ⟨mk, hw⟩ := hw
  refine zx_go C hw hpl hM isC isR hC hR hnC hnR hdis hfr hlo hce hsl hd (fun T locs ls hP X => ?_) kk
  obtain ⟨methM, cM, hn, hm, -, -, -, -, -, -, hsig⟩ := hw
  obtain ⟨mk2, methM2, hn2, hm2, hstM, habM⟩ := Cond.instanceMethod_spec (C.w hin)
  cases hn.symm.trans hn2
  cases hm.symm.trans hm2
  obtain ⟨cellB, hcB, hoB, hclB⟩ := va_recv C.k hP hcl he
  rw [hq9] at hclB
  obtain ⟨c2, r2, m2, q1, q2, q3, q4, kP, hkP, hkPi⟩ := Cond.selects_spec (C.w hse)
  cases hclB.symm.trans q1
  cases (State.methodFound?_of_named hn hy).symm.trans q2
  cases hn.symm.trans q3
  have hselP : selectMethod e.platform s.vm cellB.cls mk = .method mk := by rw [Launch.admits_selectMethod X.admits]; exact q4
  rw [hsig] at hlen
  exact X.invokevirtualNest C.hx C.ho (C.w hlk) hn hm hstM hkP hkPi hy (a := b) (cell := cellB) hcB (fun z h => by rw [h] at hoB; cases hoB) hselP hm habM hkP hkPi (g := F0 m pc ls st0) rfl (argsL := As) (rest := st) (Option.some.inj hlen).symm hst (by rw [C.hb]; exact hd)
theorem zx_callI (C : zx_C p s m args c cc nL own B D cl tys A) {y : MethodName} {bytes : ByteArray} {maxL ix : Nat} {ret : Option FieldType} {hs : List (Nat × Nat × Nat × Nat)} {kr nr : Nat} {R' : Room} {av : List Value} {wc wr : va_W} {post : Outcome → va_W → Prop} {st0 : List Value} {b : Nat} {As : List Value} (hpl : plainName y.cls = true) (hy : y.cls ≠ "java/lang/invoke/MethodHandle" ∧ y.cls ≠ "java/lang/invoke/VarHandle") (hco : Cond.code y bytes maxL none ∈ B) (hy1 : y.name = "<init>") (hin : Cond.instanceMethod y ∈ B) (hlk : Cond.methodLink own ix y ∈ B) (hlen : (parseMethodDescriptor y.desc).map (fun d => d.parameters.length) = some As.length) (hav : av = .ref b :: As) (hM : zx_K l B D cl tys y bytes maxL none [] kr nr R' av wc post) (hst : st0 = As.reverse ++ .ref b :: st) (isC isR : List Nat) (hC : isC.map (fun i => ws[i]?) = wc.map some) (hR : isR.map (fun i => ws[i]?) = wr.map some) (hnC : va_nd isC = true) (hnR : va_nd isR = true) (hdis : ∀ i ∈ isR, i ∉ isC) (hfr : R'.frames + 1 ≤ R.frames) (hlo : (st.map fun v => v.category).sum + (maxL + 11) + R'.locals ≤ R.locals) (hce : kc + R'.cells ≤ R.cells) (hsl : ks + R'.slots ≤ R.slots) (hd : decode cc pc = .ok (.invokespecial ix, 3)) (kk : ∀ (o : Outcome) (w1 : va_W), post o w1 → zx_Af p l e R s m args below meth c Q D cl A nL lv (wr ++ w1) (kc + zx_ck o kr R'.cells) (ks + zx_ck o nr R'.slots) pc st o) : zx_At p l e R s m args below meth c Q D cl A nL lv ws kc ks pc st0 := by
  subst hav
  obtain ⟨mk, hw⟩ := zx_cw.of (C.w hco)
  refine zx_go C hw hpl hM isC isR hC hR hnC hnR hdis hfr hlo hce hsl hd (fun T locs ls hP X => ?_) kk
  obtain ⟨methM, cM, hn, hm, -, -, -, -, -, -, hsig⟩ := hw
  have hmag : e.platform.magicAccessors = ({} : Platform).magicAccessors := by rw [X.admits.platform]
  obtain ⟨mk2, methM2, cM2, kP, vm₁, hn2, hm2, -, -, -, -, hkP, -, hW₁, hstep₁⟩ := Steps.initColdArgs (e := e) X.here C.hx X.warmed hmag C.ho hy1 hy (C.w hlk) (C.w hin) (C.w hco) (f := F0 m pc ls st0) rfl (argsL := As) (rest := st) (a := b) (fun sig h => by rw [h] at hlen; exact (Option.some.inj hlen).symm) hst (by rw [C.hb]; exact hd)
  cases hn.symm.trans hn2
  exact ⟨vm₁, X.noted hW₁, hstep₁⟩
theorem zx_callIN (C : zx_C p s m args c cc nL own B D cl tys A) {y : MethodName} {bytes : ByteArray} {maxL ix : Nat} {ret : Option FieldType} {hs : List (Nat × Nat × Nat × Nat)} {kr nr : Nat} {R' : Room} {av : List Value} {wc wr : va_W} {post : Outcome → va_W → Prop} {st0 : List Value} {host : String} {b : Nat} {As : List Value} (hpl : plainName y.cls = true) (hy : y.cls ≠ "java/lang/invoke/MethodHandle" ∧ y.cls ≠ "java/lang/invoke/VarHandle") (hco : Cond.code y bytes maxL none ∈ B) (hy1 : y.name = "<init>") (hin : Cond.instanceMethod y ∈ B) (hlk : Cond.methodLinkNest own ix y host ∈ B) (hlen : (parseMethodDescriptor y.desc).map (fun d => d.parameters.length) = some As.length) (hav : av = .ref b :: As) (hM : zx_K l B D cl tys y bytes maxL none [] kr nr R' av wc post) (hst : st0 = As.reverse ++ .ref b :: st) (isC isR : List Nat) (hC : isC.map (fun i => ws[i]?) = wc.map some) (hR : isR.map (fun i => ws[i]?) = wr.map some) (hnC : va_nd isC = true) (hnR : va_nd isR = true) (hdis : ∀ i ∈ isR, i ∉ isC) (hfr : R'.frames + 1 ≤ R.frames) (hlo : (st.map fun v => v.category).sum + (maxL + 11) + R'.locals ≤ R.locals) (hce : kc + R'.cells ≤ R.cells) (hsl : ks + R'.slots ≤ R.slots) (hd : decode cc pc = .ok (.invokespecial ix, 3)) (kk : ∀ (o : Outcome) (w1 : va_W), post o w1 → zx_Af p l e R s m args below meth c Q D cl A nL lv (wr ++ w1) (kc + zx_ck o kr R'.cells) (ks + zx_ck o nr R'.slots) pc st o) : zx_At p l e R s m args below meth c Q D cl A nL lv ws kc ks pc st0 := by
  subst hav
  obtain ⟨mk, hw⟩ := zx_cw.of (C.w hco)
  refine zx_go C hw hpl hM isC isR hC hR hnC hnR hdis hfr hlo hce hsl hd (fun T locs ls hP X => ?_) kk
  obtain ⟨methM, cM, hn, hm, -, -, -, -, -, -, hsig⟩ := hw
  have hmag : e.platform.magicAccessors = ({} : Platform).magicAccessors := by rw [X.admits.platform]
  obtain ⟨mk2, methM2, cM2, kP, vm₁, hn2, hm2, -, -, -, -, hkP, -, hW₁, hstep₁⟩ := Steps.initColdArgsNest (e := e) X.here C.hx X.warmed hmag C.ho hy1 hy (C.w hlk) (C.w hin) (C.w hco) (f := F0 m pc ls st0) rfl (argsL := As) (rest := st) (a := b) (fun sig h => by rw [h] at hlen; exact (Option.some.inj hlen).symm) hst (by rw [C.hb]; exact hd)
  cases hn.symm.trans hn2
  exact ⟨vm₁, X.noted hW₁, hstep₁⟩
end ZY
end
section
section ZZ
variable {p : Program} {l : Launch} {e : Env} {R : Room} {s : State} {m : MethodId} {args : Array Value} {below : List Frame} {meth : Method} {c : Code} {Q : State → Prop}
variable {cc : ByteArray} {nL : Nat} {own : String} {B : List Cond} {D : va_G} {cl : List vw_C} {tys : List (ClassId × FieldType)} {A : Nat → Prop}
variable {lv lv' : List (Nat × Value)} {ws ws' : va_W} {kc ks pc : Nat} {st : List Value}
theorem zx_isRef {C n d : String} {v : Value} {A : Nat → Prop} {s : State} {args : Array Value} (h : va_Z C n d v A s s.heap) (hv : v = .null ∨ ∃ t, v = .ref t) : (Cond.isRef (.static C n d)).before args s = true := by
  obtain ⟨cf, kf, fi, f, a, cell, h1, h2, h3, h4, h5, h6, h7, -⟩ := h
  have he : (Term.static C n d).eval args s none [] s = some v := by
    simp [Term.eval, State.fieldNamed?, h1, h2, h4, h5, h6, h7]
  rcases hv with rfl | ⟨t, rfl⟩ <;> simp [Cond.before, Cond.holds, Cond.value, he]
theorem zx_isRefq {C n d : String} {A : Nat → Prop} {s : State} {args : Array Value} (h : va_Zq C n d A s s.heap) : (Cond.isRef (.static C n d)).before args s = true := by
  rcases h with h | ⟨t, h⟩
  · exact zx_isRef h (Or.inl rfl)
  · exact zx_isRef h (Or.inr ⟨t, rfl⟩)
/-- the words of a throw that speak of the heap -/
def zx_four : List Cond := [.isRef (.static Bundle.tN "UNASSIGNED_STACK" Bundle.steD), .isRef (.static Bundle.tN "SUPPRESSED_SENTINEL" Bundle.listD), .laysStatic Bundle.tN "UNASSIGNED_STACK" Bundle.steD, .laysStatic Bundle.tN "SUPPRESSED_SENTINEL" Bundle.listD]
theorem zx_L.word {C n d : String} {s : State} {args : Array Value} (h : zx_L C n d s) : (Cond.laysStatic C n d).before args s = true := by
  obtain ⟨c, k, i, f, a, cell, h1, h2, h3, h4, h5, h6, h7, h8, h9⟩ := h
  show (Cond.laysStatic C n d).holds args s none s [] = true
  exact Cond.laysStatic_of h1 h2 h3 h4 h5 h6 h7 h8 h9
theorem zx_four_ok {s : State} {args : Array Value} (h : zx_S s) {w : Cond} (hw : w ∈ zx_four) : w.before args s = true := by
  simp only [zx_four, List.mem_cons, List.not_mem_nil, or_false] at hw
  rcases hw with rfl | rfl | rfl | rfl
  · exact zx_isRefq h.1.1
  · exact zx_isRefq h.2.1
  · exact h.1.2.word
  · exact h.2.2.word
/-- the walk seen from where it stands: as if the method had been called in this heap -/
def zx_here (T s : State) (m : MethodId) (args : Array Value) (below : List Frame) : State := (T.setVm s.vm).setFrames (.invoking m args :: below)
theorem zx_anew {T : State} {locs : List Loc} (X : Stand p l e R s m args below meth c T locs kc ks) {R' : Room} (hf : R'.frames ≤ R.frames) (hl : R'.locals ≤ R.locals) (hc : kc + R'.cells ≤ R.cells) (hs : ks + R'.slots ≤ R.slots) : Stand p l e R' (zx_here T s m args below) m args below meth c T [] 0 0 := by
  obtain ⟨g₀, hfr⟩ := X.frames_eq
  obtain ⟨th, hth, -⟩ := State.frames_cons hfr
  have hcur : T.cur < T.threads.size := (Array.getElem?_eq_some_iff.mp hth).1
  have hF : (zx_here T s m args below).frames = .invoking m args :: below := State.frames_setFrames _ hcur
  have hlim : e.platform.stackLimits (zx_here T s m args below).me = e.platform.stackLimits T.me := State.stackLimits_setFrames ..
  have hby : (zx_here T s m args below).me.stackBytes = T.me.stackBytes := State.stackBytes_setFrames ..
  have hin : (zx_here T s m args below).localsInUse = s.localsInUse := by
    rw [State.localsInUse_invoking hF (meth := meth) (c := c) X.method X.code, State.localsInUse_invoking X.frames X.method X.code]
  have hz : ((T.heap.toList.drop T.heap.size).map (·.slots.size)).sum = 0 := by
    rw [List.drop_eq_nil_of_le (Nat.le_of_eq Array.length_toList)]; rfl
  exact
    { admits := X.admits, cas := X.cas, clock := X.clock, frames := hF
      room := by
        have h := X.room
        have q1 := X.heapSize
        have q2 := X.used
        have hlen : s.frames.length = below.length + 1 := by rw [X.frames]; rfl
        have hlen2 : (zx_here T s m args below).frames.length = below.length + 1 := by rw [hF]; rfl
        have hhp : (zx_here T s m args below).heap.size = T.heap.size := rfl
        have hsu : (zx_here T s m args below).slotsUsed = T.slotsUsed := rfl
        have hbk : (zx_here T s m args below).slotsTrue = true := X.book
        simp only [State.hasRoom, Bool.and_eq_true, decide_eq_true_eq] at h ⊢
        rw [hlen] at h
        rw [hlen2, hin, hlim, hby, hhp, hsu, X.limits, X.bytes]
        obtain ⟨⟨⟨⟨h1, h2, h3, h4, h5, h6⟩, h7⟩, h8⟩, h9⟩ := h
        exact ⟨⟨⟨⟨by omega, by omega, by omega, by omega, by omega, h6⟩, by omega⟩, by omega⟩, hbk⟩
      hears := X.hears, method := X.method, code := X.code, here := X.here, tail := X.tail, warmed := X.warmed
      limits := hlim.symm, bytes := hby.symm
      same := by
        refine ⟨?_, Nat.le_refl _, Nat.le_refl _, ?_, ?_, fun a c9 h9 => ⟨c9, h9, rfl, rfl, fun _ _ => rfl⟩⟩
        · show T.setVm s.vm = { ((T.setVm s.vm).setFrames (.invoking m args :: below)).setFrames T.frames with heap := T.heap, slotsUsed := T.slotsUsed }
          rw [State.setFrames_setFrames]
          have hst : (T.setVm s.vm).setFrames T.frames = T.setVm s.vm := State.setFrames_self (s := T.setVm s.vm) hth
          rw [hst]
          rfl
        · show T.slotsUsed = T.slotsUsed + ((T.heap.toList.drop T.heap.size).map (·.slots.size)).sum
          rw [hz]; rfl
        · show ((T.heap.toList.drop T.heap.size).map (·.slots.size)).sum ≤ 0
          rw [hz]; exact Nat.le_refl _ }
/-- what a run of sameButNew with no written place keeps -/
theorem zx_keptAll {s' U : State} {k n : Nat} (h : s'.sameButNew ({ U with vm := s'.vm } : State) [] k n) : s'.heap.size ≤ U.heap.size ∧ ∀ (q : Nat) (cell : Cell), s'.heap[q]? = some cell → U.heap[q]? = some cell := by
  refine ⟨h.2.1, fun q cell hq => ?_⟩
  exact State.sameButNew.old_cell h hq

set_option maxHeartbeats 1000000 in
/-- 'throw new E("text")' -/
theorem zx_throwS {w0 : va_W} {kr nr : Nat} {post : Outcome → va_W → Prop} (C : zx_C p s m args c cc nL own B D cl tys (va_A w0 s.heap.size)) (hl9 : l.stackTraces = false) {cls : String} {text : String} {is : Nat} {names : List String} {ik ic ci : Nat} {T0 : u_T} (hcls : Bundle.fit cls = true) (hnames : ∀ n ∈ names, Bundle.fit n = true) (hk : Cond.classLink own ik cls ∈ B) (hini : Cond.initialized cls ∈ B) (hstr : Cond.stringRef own is text ∈ B) (hat : ∀ w ∈ Bundle.ownAtoms own ic cls names, w ∈ B ∨ w ∈ zx_four) (hci : cl[ci]? = some (cls, T0, 0)) (hlk : meth.locks = false) (hout : ∀ h ∈ c.exceptionTable.toList, covers h (pc + 9) = false)
    (d0 : decode cc pc = .ok (.new ik, 3)) (d3 : decode cc (pc + 3) = .ok (.dup, 1)) (d4 : decode cc (pc + 4) = .ok (.ldc is, 2)) (d6 : decode cc (pc + 6) = .ok (.invokespecial ic, 3)) (d9 : decode cc (pc + 9) = .ok (.athrow, 1)) (hf : names.length + 3 < R.frames) (hlo : (st.map fun v => v.category).sum + (13 * (names.length + 1) + 43) ≤ R.locals) (h1 : kc + 1 ≤ R.cells) (h2 : ks + 6 ≤ R.slots)
    (hq : ∀ x : Nat, post (.threw x) (ws ++ [(x, .inr (ci, []))])) : zx_At p l e R s m args below meth c (zx_Q below s D cl w0 kr nr R post) D cl (va_A w0 s.heap.size) nL lv ws kc ks pc st := by
  intro H locs ls hl hP hD hS T hT X
  subst hT
  have htr : e.platform.stackTraces = false := (show e.platform.stackTraces = l.stackTraces by rw [X.admits.platform]).trans hl9
  have Y := zx_anew X (R' := { frames := R.frames, locals := R.locals, cells := 1, slots := 6 }) (Nat.le_refl _) (Nat.le_refl _) h1 h2
  have hW0 : s.WarmedH (zx_here T s m args below).vm := State.WarmedH.refl s
  have hG : zx_G B D cl tys (zx_here T s m args below) := zx_G.to C.hB (s := s) hW0 (fun a cell g1 g2 => by
    show T.heap[a]? = some cell
    rw [hS.2.1 a (Array.getElem?_eq_some_iff.mp g1).1 (C.hN a cell g1 g2)]
    exact g1) C.g
  have hat' : ∀ w ∈ Bundle.ownAtoms own ic cls names, w.before args (zx_here T s m args below) = true := fun w hw => by
    rcases hat w hw with g | g
    · exact hG.1 w g args
    · exact zx_four_ok hG.2.2 g
  have hown' : (zx_here T s m args below).vm.findClass own = some m.cls := C.ho
  have hins : (Cond.instantiable cls 6).before args (zx_here T s m args below) = true := hat' _ (by simp [Bundle.ownAtoms])
  obtain ⟨vm₁, cX, kX, hfX, hkX, -, -, X₁, st1⟩ := Y.newCold C.hx (own := own) (C := cls) (index := ik) (n := 6) hown' (hG.1 _ hk args) hins (hG.1 _ hini args) (g := F0 m pc ls st) rfl (by rw [C.hb]; exact d0) (Nat.le_refl _) (Nat.le_refl _)
  generalize hT1 : (T.setVm vm₁).pushCell { cls := cX, slots := kX.instanceTypes.map defaultValue, vm := .none } = T1 at X₁ st1
  have hcellA : T1.heap[T.heap.size]? = some (freshCell cX kX) := by rw [← hT1]; exact State.heap_pushCell_size _ _
  have hcat : (Value.ref T.heap.size).category = 1 := rfl
  have d3' : decode c.code (pc + 3) = .ok (.dup, 1) := by rw [C.hb]; exact d3
  have d4' : decode c.code (pc + 4) = .ok (.ldc is, 2) := by rw [C.hb]; exact d4
  obtain ⟨_, _, _, sa, -, -, -, -, -, hev⟩ := Cond.stringRef_spec hown' (hG.1 _ hstr args)
  obtain ⟨U, hsteps, hrun, hend, hW, hsame, ce, hce, hO⟩ := X₁.ctorThrowS C.hx htr (own := own) (cls := cls) (names := names) (ic := ic) hown' hcls hnames hat' (fun x hx => nomatch hx) hfX hkX hcellA (Nat.le_refl _) (msg := .ref sa) rfl (g := { method := m, pc := pc + 6, locals := ls, stack := .ref sa :: .ref T.heap.size :: .ref T.heap.size :: st, locked := none }) rfl (by rw [C.hml]; exact hl.1) rfl rfl (rest := st) rfl (by rw [C.hb]; exact d6) (by rw [C.hb]; exact d9) hout hf (by simp only [List.map_cons, List.sum_cons, hcat]; omega) hlk
  obtain ⟨f1, f2⟩ := zx_keptAll hsame
  have hWs : s.WarmedH U.vm := hW
  have hall : s.sameButNew ({ U with vm := s.vm } : State) locs R.cells R.slots := by
    obtain ⟨e1, e2⟩ := hsame
    have g2 : (T.setVm s.vm).sameButNew ({ U with vm := s.vm } : State) [] (0 + 1) (0 + 6) := ⟨by
      have e3 : ({ U with vm := s.vm } : State) = { (zx_here T s m args below).setFrames U.frames with heap := U.heap, slotsUsed := U.slotsUsed } := e1
      rw [zx_here, State.setFrames_setFrames] at e3
      exact e3, e2⟩
    have g3 := X.same.trans g2
    rw [List.append_nil] at g3
    exact g3.mono (by omega) (by omega)
  have hceC : ce.cls = D.1 ci := by
    have g1 : s.vm.findClass cls = some ce.cls := hO.cls
    have g2 : s.vm.findClass cls = some (D.1 ci) := (C.k.1 ci _ hci).2.1
    exact Option.some.inj (g1.symm.trans g2)
  have hP2 : va_P D cl (ws ++ [(T.heap.size, .inr (ci, []))]) U.heap := va_P.app (fun k q hk => by
      have g1 := hP k q hk
      refine g1.kept ?_
      have g2 := g1.lt
      have g3 : T.heap[q.1]? = some T.heap[q.1] := Array.getElem?_eq_getElem g2
      rw [g3]
      exact f2 q.1 _ g3) (fun k q hk => by
      cases k with
      | zero =>
        cases hk
        exact ⟨_, hci, ce, hce, hceC, hO.vm, fun j hj => absurd hj (Nat.not_lt_zero _)⟩
      | succ k => cases hk)
  have hD2 : va_D (va_A w0 s.heap.size) (ws ++ [(T.heap.size, .inr (ci, []))]) := hD.push hP rfl (Or.inr hS.1)
  refine ⟨U, ?_, .threw T.heap.size, hrun, hend, hWs, ⟨locs, hall, hS.2.2⟩, ⟨_, hq T.heap.size, hP2, hD2⟩, ⟨Nat.le_trans hS.1 f1, fun q g1 g2 => ?_⟩⟩
  · refine st1 _ ?_
    show Steps p.tables e below (T1.setTop { method := m, pc := pc + 3, locals := ls, stack := .ref T.heap.size :: st, locked := none }) _
    jvm_step X₁.here [X₁.here.top, C.hx, d3', Value.category]
    exact X₁.ldcString C.hx (own := own) (text := text) (index := is) (a := sa) hown' (hG.1 _ hstr args) hev (g := { method := m, pc := pc + 4, locals := ls, stack := .ref T.heap.size :: .ref T.heap.size :: st, locked := none }) rfl d4' _ hsteps
  · rw [← hS.2.1 q g1 g2]
    have g3 := Nat.lt_of_lt_of_le g1 hS.1
    rw [Array.getElem?_eq_getElem g3]
    exact f2 q _ (Array.getElem?_eq_getElem g3)
set_option maxHeartbeats 1000000 in
/-- 'throw new E()' -/
theorem zx_throw0 {w0 : va_W} {kr nr : Nat} {post : Outcome → va_W → Prop} (C : zx_C p s m args c cc nL own B D cl tys (va_A w0 s.heap.size)) (hl9 : l.stackTraces = false) {cls : String} {names : List String} {ik ic ci : Nat} {T0 : u_T} (hcls : Bundle.fit cls = true) (hnames : ∀ n ∈ names, Bundle.fit n = true) (hk : Cond.classLink own ik cls ∈ B) (hini : Cond.initialized cls ∈ B) (hat : ∀ w ∈ Bundle.ownAtoms0 own ic cls names, w ∈ B ∨ w ∈ zx_four) (hci : cl[ci]? = some (cls, T0, 0)) (hlk : meth.locks = false) (hout : ∀ h ∈ c.exceptionTable.toList, covers h (pc + 7) = false)
    (d0 : decode cc pc = .ok (.new ik, 3)) (d3 : decode cc (pc + 3) = .ok (.dup, 1)) (d6 : decode cc (pc + 4) = .ok (.invokespecial ic, 3)) (d9 : decode cc (pc + 7) = .ok (.athrow, 1)) (hf : names.length + 3 < R.frames) (hlo : (st.map fun v => v.category).sum + (13 * (names.length + 1) + 42) ≤ R.locals) (h1 : kc + 1 ≤ R.cells) (h2 : ks + 6 ≤ R.slots)
    (hq : ∀ x : Nat, post (.threw x) (ws ++ [(x, .inr (ci, []))])) : zx_At p l e R s m args below meth c (zx_Q below s D cl w0 kr nr R post) D cl (va_A w0 s.heap.size) nL lv ws kc ks pc st := by
  intro H locs ls hl hP hD hS T hT X
  subst hT
  have htr : e.platform.stackTraces = false := (show e.platform.stackTraces = l.stackTraces by rw [X.admits.platform]).trans hl9
  have Y := zx_anew X (R' := { frames := R.frames, locals := R.locals, cells := 1, slots := 6 }) (Nat.le_refl _) (Nat.le_refl _) h1 h2
  have hW0 : s.WarmedH (zx_here T s m args below).vm := State.WarmedH.refl s
  have hG : zx_G B D cl tys (zx_here T s m args below) := zx_G.to C.hB (s := s) hW0 (fun a cell g1 g2 => by
    show T.heap[a]? = some cell
    rw [hS.2.1 a (Array.getElem?_eq_some_iff.mp g1).1 (C.hN a cell g1 g2)]
    exact g1) C.g
  have hat' : ∀ w ∈ Bundle.ownAtoms0 own ic cls names, w.before args (zx_here T s m args below) = true := fun w hw => by
    rcases hat w hw with g | g
    · exact hG.1 w g args
    · exact zx_four_ok hG.2.2 g
  have hown' : (zx_here T s m args below).vm.findClass own = some m.cls := C.ho
  have hins : (Cond.instantiable cls 6).before args (zx_here T s m args below) = true := hat' _ (by simp [Bundle.ownAtoms0])
  obtain ⟨vm₁, cX, kX, hfX, hkX, -, -, X₁, st1⟩ := Y.newCold C.hx (own := own) (C := cls) (index := ik) (n := 6) hown' (hG.1 _ hk args) hins (hG.1 _ hini args) (g := F0 m pc ls st) rfl (by rw [C.hb]; exact d0) (Nat.le_refl _) (Nat.le_refl _)
  generalize hT1 : (T.setVm vm₁).pushCell { cls := cX, slots := kX.instanceTypes.map defaultValue, vm := .none } = T1 at X₁ st1
  have hcellA : T1.heap[T.heap.size]? = some (freshCell cX kX) := by rw [← hT1]; exact State.heap_pushCell_size _ _
  have hcat : (Value.ref T.heap.size).category = 1 := rfl
  have d3' : decode c.code (pc + 3) = .ok (.dup, 1) := by rw [C.hb]; exact d3
  obtain ⟨U, hsteps, hrun, hend, hW, hsame, ce, hce, hO⟩ := X₁.ctorThrow0 C.hx htr (own := own) (cls := cls) (names := names) (ic := ic) hown' hcls hnames hat' (fun x hx => nomatch hx) hfX hkX hcellA (Nat.le_refl _) (g := { method := m, pc := pc + 4, locals := ls, stack := .ref T.heap.size :: .ref T.heap.size :: st, locked := none }) rfl (by rw [C.hml]; exact hl.1) rfl rfl (rest := st) rfl (by rw [C.hb]; exact d6) (by rw [C.hb]; exact d9) hout hf (by simp only [List.map_cons, List.sum_cons, hcat]; omega) hlk
  obtain ⟨f1, f2⟩ := zx_keptAll hsame
  have hWs : s.WarmedH U.vm := hW
  have hall : s.sameButNew ({ U with vm := s.vm } : State) locs R.cells R.slots := by
    obtain ⟨e1, e2⟩ := hsame
    have g2 : (T.setVm s.vm).sameButNew ({ U with vm := s.vm } : State) [] (0 + 1) (0 + 6) := ⟨by
      have e3 : ({ U with vm := s.vm } : State) = { (zx_here T s m args below).setFrames U.frames with heap := U.heap, slotsUsed := U.slotsUsed } := e1
      rw [zx_here, State.setFrames_setFrames] at e3
      exact e3, e2⟩
    have g3 := X.same.trans g2
    rw [List.append_nil] at g3
    exact g3.mono (by omega) (by omega)
  have hceC : ce.cls = D.1 ci := by
    have g1 : s.vm.findClass cls = some ce.cls := hO.cls
    have g2 : s.vm.findClass cls = some (D.1 ci) := (C.k.1 ci _ hci).2.1
    exact Option.some.inj (g1.symm.trans g2)
  have hP2 : va_P D cl (ws ++ [(T.heap.size, .inr (ci, []))]) U.heap := va_P.app (fun k q hk => by
      have g1 := hP k q hk
      refine g1.kept ?_
      have g2 := g1.lt
      have g3 : T.heap[q.1]? = some T.heap[q.1] := Array.getElem?_eq_getElem g2
      rw [g3]
      exact f2 q.1 _ g3) (fun k q hk => by
      cases k with
      | zero =>
        cases hk
        exact ⟨_, hci, ce, hce, hceC, hO.vm, fun j hj => absurd hj (Nat.not_lt_zero _)⟩
      | succ k => cases hk)
  have hD2 : va_D (va_A w0 s.heap.size) (ws ++ [(T.heap.size, .inr (ci, []))]) := hD.push hP rfl (Or.inr hS.1)
  refine ⟨U, ?_, .threw T.heap.size, hrun, hend, hWs, ⟨locs, hall, hS.2.2⟩, ⟨_, hq T.heap.size, hP2, hD2⟩, ⟨Nat.le_trans hS.1 f1, fun q g1 g2 => ?_⟩⟩
  · refine st1 _ ?_
    show Steps p.tables e below (T1.setTop { method := m, pc := pc + 3, locals := ls, stack := .ref T.heap.size :: st, locked := none }) _
    jvm_step X₁.here [X₁.here.top, C.hx, d3', Value.category]
    exact hsteps
  · rw [← hS.2.1 q g1 g2]
    have g3 := Nat.lt_of_lt_of_le g1 hS.1
    rw [Array.getElem?_eq_getElem g3]
    exact f2 q _ (Array.getElem?_eq_getElem g3)
end ZZ
end
section
section ZC
variable {p : Program} {l : Launch} {e : Env} {R : Room} {s : State} {m : MethodId} {args : Array Value} {below : List Frame} {meth : Method} {c : Code} {Q : State → Prop}
variable {cc : ByteArray} {nL : Nat} {own : String} {B : List Cond} {D : va_G} {cl : List vw_C} {tys : List (ClassId × FieldType)} {A : Nat → Prop}
variable {lv lv' : List (Nat × Value)} {ws ws' : va_W} {kc ks pc : Nat} {st : List Value}
/-- the row of a table that its picture shows -/
theorem zx_split {l0 : List ExceptionTableEntry} {hp hq : List (Nat × Nat × Nat × Nat)} {h0 : Nat × Nat × Nat × Nat} (h : l0.map (fun h : ExceptionTableEntry => (h.startPc, h.endPc, h.handlerPc, h.catchType)) = hp ++ h0 :: hq) : ∃ pre y suf, l0 = pre ++ y :: suf ∧ pre.map (fun h : ExceptionTableEntry => (h.startPc, h.endPc, h.handlerPc, h.catchType)) = hp ∧ (fun h : ExceptionTableEntry => (h.startPc, h.endPc, h.handlerPc, h.catchType)) y = h0 := by
  obtain ⟨l1, l2, h1, h2, h3⟩ := List.map_eq_append_iff.mp h
  obtain ⟨y, l3, h4, h5, -⟩ := List.map_eq_cons_iff.mp h3
  exact ⟨l1, y, l3, by rw [h1, h4], h2, h5⟩
set_option maxHeartbeats 1000000 in
/-- an exception is caught: the rows ahead name classes that it isn't of -/
theorem zx_catch (C : zx_C p s m args c cc nL own B D cl tys A) {x ci q0 N0 : Nat} {E name : String} {T0 : u_T} {fs : List Value} (hp hq : List (Nat × Nat × Nat × Nat)) (h0 : Nat × Nat × Nat × Nat) (htab : c.exceptionTable.toList.map (fun h : ExceptionTableEntry => (h.startPc, h.endPc, h.handlerPc, h.catchType)) = hp ++ h0 :: hq) (hx : h0.1 ≤ pc ∧ pc < h0.2.1) (hne : h0.2.2.2 ≠ 0) (hlk : Cond.classLink own h0.2.2.2 name ∈ B) (hca : Cond.castable E name ∈ B) (hpass : ∀ h ∈ hp, h.2.2.2 ≠ 0 ∧ ∃ nm : String, Cond.classLink own h.2.2.2 nm ∈ B ∧ Cond.not (.castable E nm) ∈ B) (he : ws[q0]? = some (x, .inr (ci, fs))) (hci : cl[ci]? = some (E, T0, N0)) (h : zx_At p l e R s m args below meth c Q D cl A nL lv ws kc ks h0.2.2.1 [.ref x]) : zx_Th p l e R s m args below meth c Q D cl A nL lv ws kc ks pc st x := by
  intro H locs ls hl hP hD hS T hT X
  obtain ⟨r, hr1, cell, g1, g2, g3, -⟩ := hP q0 _ he
  obtain ⟨-, hfc, kC, hkC, -⟩ := C.k.1 ci _ hci
  have hpl : e.platform.magicAccessors = ({} : Platform).magicAccessors := by rw [X.admits.platform]
  obtain ⟨c3, c4, hc3, hc4, hasg⟩ := Cond.castable_spec (C.w hca)
  cases Option.some.inj (hc3.symm.trans hfc)
  obtain ⟨c5, hc5, hcl5⟩ := Cond.classLink_spec C.ho (C.w hlk) e.platform hpl
  cases Option.some.inj (hc4.symm.trans hc5)
  obtain ⟨pre, y, suf, hsplit, hpre, hy⟩ := zx_split htab
  subst hy
  obtain ⟨vm', X', st9⟩ := X.thenCaughtThrough x (g := F0 m pc ls st) rfl (Steps.refl _) (by rw [hT]; exact g1) (by rw [g3]; rfl) ⟨kC, by rw [g2]; exact hkC⟩ pre y suf hsplit
    (fun z hz => by
      obtain ⟨hz0, nm, hl1, hn1⟩ := hpass _ (by rw [← hpre]; exact List.mem_map.mpr ⟨z, hz, rfl⟩)
      obtain ⟨c6, hc6, hcl6⟩ := Cond.classLink_spec C.ho (C.w hl1) e.platform hpl
      obtain ⟨a8, b8, w1, w2, w3⟩ := va_Nc.of (C.w hn1)
      cases Option.some.inj (w1.symm.trans hfc)
      cases Option.some.inj (w2.symm.trans hc6)
      exact Or.inr ⟨hz0, _, hcl6, by rw [g2]; exact w3⟩)
    (by simp only [covers, Bool.and_eq_true, decide_eq_true_eq]; exact hx) (Or.inr ⟨hne, c4, hcl5, by rw [g2]; exact hasg⟩)
  obtain ⟨t, a1, b1⟩ := h H locs ls hl hP hD hS (T.setVm vm') hT X'
  exact ⟨t, st9.trans a1, b1⟩
end ZC
end
section
def R_NU : String := "LzwBox$Numbering"
def T_NU : u_T := fun k => match k with
  | 0 => ("LzwBox$Numbering", "m", "I", false)
  | 1 => ("LzwBox$Numbering", "bits", "I", false)
  | 2 => ("LzwBox$Numbering", "nextRow", "I", false)
  | _ => ("LzwBox$Numbering", "first", "Z", false)
def ty_NU : Nat → FieldType := fun k => match k with
  | 0 => .int
  | 1 => .int
  | 2 => .int
  | _ => .boolean
theorem nm_NU : ∀ a, a < 4 → ∀ b, b < 4 → a ≠ b → (T_NU a).2.1 ≠ (T_NU b).2.1 := by decide +kernel
theorem tyk_NU : ∀ k, k < 4 → parseFieldDescriptor (T_NU k).2.2.1 = some (ty_NU k) := by decide +kernel
def R_BS : String := "LzwBox$BitSink"
def T_BS : u_T := fun k => match k with
  | 0 => ("LzwBox$BitSink", "bytes", "[B", false)
  | 1 => ("LzwBox$BitSink", "length", "I", false)
  | 2 => ("LzwBox$BitSink", "waiting", "I", false)
  | _ => ("LzwBox$BitSink", "waitingBits", "I", false)
def ty_BS : Nat → FieldType := fun k => match k with
  | 0 => .array .byte
  | 1 => .int
  | 2 => .int
  | _ => .int
theorem nm_BS : ∀ a, a < 4 → ∀ b, b < 4 → a ≠ b → (T_BS a).2.1 ≠ (T_BS b).2.1 := by decide +kernel
theorem tyk_BS : ∀ k, k < 4 → parseFieldDescriptor (T_BS k).2.2.1 = some (ty_BS k) := by decide +kernel
def R_UN : String := "LzwBox$Unpacker"
def T_UN : u_T := fun k => match k with
  | 0 => ("LzwBox$Unpacker", "numbering", "LLzwBox$Numbering;", true)
  | 1 => ("LzwBox$Unpacker", "rowStart", "[I", true)
  | 2 => ("LzwBox$Unpacker", "rowLength", "[I", true)
  | 3 => ("LzwBox$Unpacker", "indices", "[B", false)
  | 4 => ("LzwBox$Unpacker", "made", "I", false)
  | 5 => ("LzwBox$Unpacker", "lastStart", "I", false)
  | _ => ("LzwBox$Unpacker", "lastLength", "I", false)
def ty_UN : Nat → FieldType := fun k => match k with
  | 0 => .object "LzwBox$Numbering"
  | 1 => .array .int
  | 2 => .array .int
  | 3 => .array .byte
  | 4 => .int
  | 5 => .int
  | _ => .int
theorem nm_UN : ∀ a, a < 7 → ∀ b, b < 7 → a ≠ b → (T_UN a).2.1 ≠ (T_UN b).2.1 := by decide +kernel
theorem tyk_UN : ∀ k, k < 7 → parseFieldDescriptor (T_UN k).2.2.1 = some (ty_UN k) := by decide +kernel
def R_PK : String := "LzwBox$Packer"
def T_PK : u_T := fun k => match k with
  | 0 => ("LzwBox$Packer", "numbering", "LLzwBox$Numbering;", true)
  | 1 => ("LzwBox$Packer", "sink", "LLzwBox$BitSink;", true)
  | 2 => ("LzwBox$Packer", "firstChild", "[I", true)
  | 3 => ("LzwBox$Packer", "nextSibling", "[I", true)
  | _ => ("LzwBox$Packer", "lastIndex", "[I", true)
def ty_PK : Nat → FieldType := fun k => match k with
  | 0 => .object "LzwBox$Numbering"
  | 1 => .object "LzwBox$BitSink"
  | 2 => .array .int
  | 3 => .array .int
  | _ => .array .int
theorem nm_PK : ∀ a, a < 5 → ∀ b, b < 5 → a ≠ b → (T_PK a).2.1 ≠ (T_PK b).2.1 := by decide +kernel
theorem tyk_PK : ∀ k, k < 5 → parseFieldDescriptor (T_PK k).2.2.1 = some (ty_PK k) := by decide +kernel
def R_LB : String := "LzwBox"
def T_LB : u_T := fun k => match k with
  | 0 => ("LzwBox", "tape", "[B", true)
  | 1 => ("LzwBox", "tapeLength", "I", false)
  | 2 => ("LzwBox", "result", "[B", false)
  | 3 => ("LzwBox", "spare", "[B", false)
  | 4 => ("LzwBox", "resultLength", "I", false)
  | 5 => ("LzwBox", "unpacker", "LLzwBox$Unpacker;", true)
  | _ => ("LzwBox", "packer", "LLzwBox$Packer;", true)
def ty_LB : Nat → FieldType := fun k => match k with
  | 0 => .array .byte
  | 1 => .int
  | 2 => .array .byte
  | 3 => .array .byte
  | 4 => .int
  | 5 => .object "LzwBox$Unpacker"
  | _ => .object "LzwBox$Packer"
theorem nm_LB : ∀ a, a < 7 → ∀ b, b < 7 → a ≠ b → (T_LB a).2.1 ≠ (T_LB b).2.1 := by decide +kernel
theorem tyk_LB : ∀ k, k < 7 → parseFieldDescriptor (T_LB k).2.2.1 = some (ty_LB k) := by decide +kernel
def R_MO : String := "LzwBoxModel"
def T_MO : u_T := fun k => match k with
  | 0 => ("LzwBoxModel", "failed", "I", false)
  | 1 => ("LzwBoxModel", "tape", "[B", true)
  | 2 => ("LzwBoxModel", "taped", "I", false)
  | 3 => ("LzwBoxModel", "result", "[B", true)
  | 4 => ("LzwBoxModel", "size", "I", false)
  | 5 => ("LzwBoxModel", "data", "[B", false)
  | 6 => ("LzwBoxModel", "dataSize", "I", false)
  | 7 => ("LzwBoxModel", "rows", "[B", true)
  | 8 => ("LzwBoxModel", "rowBytes", "I", false)
  | 9 => ("LzwBoxModel", "bitAt", "I", false)
  | 10 => ("LzwBoxModel", "out", "[B", true)
  | 11 => ("LzwBoxModel", "outSize", "I", false)
  | 12 => ("LzwBoxModel", "before", "[I", true)
  | 13 => ("LzwBoxModel", "lastIndex", "[I", true)
  | 14 => ("LzwBoxModel", "deep", "[I", true)
  | 15 => ("LzwBoxModel", "bitBuffer", "I", false)
  | 16 => ("LzwBoxModel", "bitCount", "I", false)
  | 17 => ("LzwBoxModel", "codeWidth", "I", false)
  | 18 => ("LzwBoxModel", "codeNext", "I", false)
  | 19 => ("LzwBoxModel", "codeFirst", "Z", false)
  | _ => ("LzwBoxModel", "kids", "[I", false)
def ty_MO : Nat → FieldType := fun k => match k with
  | 0 => .int
  | 1 => .array .byte
  | 2 => .int
  | 3 => .array .byte
  | 4 => .int
  | 5 => .array .byte
  | 6 => .int
  | 7 => .array .byte
  | 8 => .int
  | 9 => .int
  | 10 => .array .byte
  | 11 => .int
  | 12 => .array .int
  | 13 => .array .int
  | 14 => .array .int
  | 15 => .int
  | 16 => .int
  | 17 => .int
  | 18 => .int
  | 19 => .boolean
  | _ => .array .int
theorem nm_MO : ∀ a, a < 21 → ∀ b, b < 21 → a ≠ b → (T_MO a).2.1 ≠ (T_MO b).2.1 := by decide +kernel
theorem tyk_MO : ∀ k, k < 21 → parseFieldDescriptor (T_MO k).2.2.1 = some (ty_MO k) := by decide +kernel
def R_LW : String := "LzwBoxLaw"
def zT0 : u_T := fun _ => ("", "", "", false)
/-- the classes whose objects the worlds hold -/
abbrev zcl : List vw_C := [(R_NU, T_NU, 4), (R_BS, T_BS, 4), (R_UN, T_UN, 7), (R_PK, T_PK, 5), (R_LB, T_LB, 7), (R_MO, T_MO, 21), ("java/lang/IllegalArgumentException", zT0, 0), ("java/lang/UnsupportedOperationException", zT0, 0), ("java/lang/IndexOutOfBoundsException", zT0, 0)]
abbrev zt (b i g : ClassId) : List (ClassId × FieldType) := [(b, .byte), (i, .int), (g, .long)]
abbrev b_LB_init : ByteArray := prog_1_method_1_code
def y_LB_init : MethodName := ⟨R_LB, "<init>", "()V"⟩
abbrev b_LB_feed : ByteArray := prog_1_method_2_code
def y_LB_feed : MethodName := ⟨R_LB, "feed", "(IIIII)I"⟩
abbrev b_LB_end : ByteArray := prog_1_method_3_code
def y_LB_end : MethodName := ⟨R_LB, "end", "(I)I"⟩
abbrev b_LB_again : ByteArray := prog_1_method_4_code
def y_LB_again : MethodName := ⟨R_LB, "again", "()I"⟩
abbrev b_LB_unpack : ByteArray := prog_1_method_5_code
def y_LB_unpack : MethodName := ⟨R_LB, "unpack", "(I)I"⟩
abbrev b_LB_pack : ByteArray := prog_1_method_6_code
def y_LB_pack : MethodName := ⟨R_LB, "pack", "(I)I"⟩
abbrev b_LB_mask : ByteArray := prog_1_method_7_code
def y_LB_mask : MethodName := ⟨R_LB, "mask", "(I)V"⟩
abbrev b_LB_word : ByteArray := prog_1_method_8_code
def y_LB_word : MethodName := ⟨R_LB, "word", "(I)J"⟩
abbrev b_LB_count : ByteArray := prog_1_method_9_code
def y_LB_count : MethodName := ⟨R_LB, "count", "(I)I"⟩
abbrev b_LB_checkM : ByteArray := prog_1_method_10_code
def y_LB_checkM : MethodName := ⟨R_LB, "checkM", "(I)V"⟩
abbrev b_LB_addToTape : ByteArray := prog_1_method_11_code
def y_LB_addToTape : MethodName := ⟨R_LB, "addToTape", "(I)V"⟩
abbrev b_LB_tapeIsIndices : ByteArray := prog_1_method_12_code
def y_LB_tapeIsIndices : MethodName := ⟨R_LB, "tapeIsIndices", "(I)Z"⟩
abbrev b_LB_takeSpareAsResult : ByteArray := prog_1_method_13_code
def y_LB_takeSpareAsResult : MethodName := ⟨R_LB, "takeSpareAsResult", "(I)V"⟩
abbrev b_MO_init : ByteArray := prog_7_method_1_code
def y_MO_init : MethodName := ⟨R_MO, "<init>", "()V"⟩
abbrev b_MO_thrown : ByteArray := prog_7_method_2_code
def y_MO_thrown : MethodName := ⟨R_MO, "thrown", "()I"⟩
abbrev b_MO_fail : ByteArray := prog_7_method_3_code
def y_MO_fail : MethodName := ⟨R_MO, "fail", "(I)I"⟩
abbrev b_MO_can : ByteArray := prog_7_method_4_code
def y_MO_can : MethodName := ⟨R_MO, "can", "(Z)V"⟩
abbrev b_MO_bits : ByteArray := prog_7_method_5_code
def y_MO_bits : MethodName := ⟨R_MO, "bits", "(I)I"⟩
abbrev b_MO_put : ByteArray := prog_7_method_6_code
def y_MO_put : MethodName := ⟨R_MO, "put", "(I)V"⟩
abbrev b_MO_firstOf : ByteArray := prog_7_method_7_code
def y_MO_firstOf : MethodName := ⟨R_MO, "firstOf", "(I)I"⟩
abbrev b_MO_giveRow : ByteArray := prog_7_method_8_code
def y_MO_giveRow : MethodName := ⟨R_MO, "giveRow", "(I)V"⟩
abbrev b_MO_unrows : ByteArray := prog_7_method_9_code
def y_MO_unrows : MethodName := ⟨R_MO, "unrows", "(I)V"⟩
abbrev b_MO_putBits : ByteArray := prog_7_method_10_code
def y_MO_putBits : MethodName := ⟨R_MO, "putBits", "(II)V"⟩
abbrev b_MO_flush : ByteArray := prog_7_method_11_code
def y_MO_flush : MethodName := ⟨R_MO, "flush", "()V"⟩
abbrev b_MO_begin : ByteArray := prog_7_method_12_code
def y_MO_begin : MethodName := ⟨R_MO, "begin", "(I)V"⟩
abbrev b_MO_emit : ByteArray := prog_7_method_13_code
def y_MO_emit : MethodName := ⟨R_MO, "emit", "(I)V"⟩
abbrev b_MO_pack2 : ByteArray := prog_7_method_14_code
def y_MO_pack2 : MethodName := ⟨R_MO, "pack", "(II)V"⟩
abbrev b_MO_unpack : ByteArray := prog_7_method_15_code
def y_MO_unpack : MethodName := ⟨R_MO, "unpack", "(I)I"⟩
abbrev b_MO_pack1 : ByteArray := prog_7_method_16_code
def y_MO_pack1 : MethodName := ⟨R_MO, "pack", "(I)I"⟩
abbrev b_MO_mask : ByteArray := prog_7_method_17_code
def y_MO_mask : MethodName := ⟨R_MO, "mask", "(I)V"⟩
abbrev b_MO_feed : ByteArray := prog_7_method_18_code
def y_MO_feed : MethodName := ⟨R_MO, "feed", "(IIIII)I"⟩
abbrev b_MO_end : ByteArray := prog_7_method_19_code
def y_MO_end : MethodName := ⟨R_MO, "end", "(I)I"⟩
abbrev b_MO_again : ByteArray := prog_7_method_20_code
def y_MO_again : MethodName := ⟨R_MO, "again", "()I"⟩
abbrev b_MO_word : ByteArray := prog_7_method_21_code
def y_MO_word : MethodName := ⟨R_MO, "word", "(I)J"⟩
abbrev b_MO_count : ByteArray := prog_7_method_22_code
def y_MO_count : MethodName := ⟨R_MO, "count", "(I)I"⟩
abbrev b_BS_init : ByteArray := prog_2_method_1_code
def y_BS_init : MethodName := ⟨R_BS, "<init>", "()V"⟩
abbrev b_BS_startOn : ByteArray := prog_2_method_2_code
def y_BS_startOn : MethodName := ⟨R_BS, "startOn", "([B)V"⟩
abbrev b_BS_put : ByteArray := prog_2_method_3_code
def y_BS_put : MethodName := ⟨R_BS, "put", "(II)V"⟩
abbrev b_BS_finish : ByteArray := prog_2_method_4_code
def y_BS_finish : MethodName := ⟨R_BS, "finish", "()I"⟩
abbrev b_BS_putByte : ByteArray := prog_2_method_5_code
def y_BS_putByte : MethodName := ⟨R_BS, "putByte", "()V"⟩
abbrev b_NU_init : ByteArray := prog_3_method_1_code
def y_NU_init : MethodName := ⟨R_NU, "<init>", "()V"⟩
abbrev b_NU_startWith : ByteArray := prog_3_method_2_code
def y_NU_startWith : MethodName := ⟨R_NU, "startWith", "(I)V"⟩
abbrev b_NU_beginAnew : ByteArray := prog_3_method_3_code
def y_NU_beginAnew : MethodName := ⟨R_NU, "beginAnew", "()V"⟩
abbrev b_NU_beginning : ByteArray := prog_3_method_4_code
def y_NU_beginning : MethodName := ⟨R_NU, "beginning", "()I"⟩
abbrev b_NU_ending : ByteArray := prog_3_method_5_code
def y_NU_ending : MethodName := ⟨R_NU, "ending", "()I"⟩
abbrev b_NU_isIndex : ByteArray := prog_3_method_6_code
def y_NU_isIndex : MethodName := ⟨R_NU, "isIndex", "(I)Z"⟩
abbrev b_NU_isFull : ByteArray := prog_3_method_7_code
def y_NU_isFull : MethodName := ⟨R_NU, "isFull", "()Z"⟩
abbrev b_NU_nextCodeMakesRow : ByteArray := prog_3_method_8_code
def y_NU_nextCodeMakesRow : MethodName := ⟨R_NU, "nextCodeMakesRow", "()Z"⟩
abbrev b_NU_passCode : ByteArray := prog_3_method_9_code
def y_NU_passCode : MethodName := ⟨R_NU, "passCode", "()V"⟩
abbrev b_PK_init : ByteArray := prog_4_method_1_code
def y_PK_init : MethodName := ⟨R_PK, "<init>", "()V"⟩
abbrev b_PK_write : ByteArray := prog_4_method_2_code
def y_PK_write : MethodName := ⟨R_PK, "write", "([BII[B)I"⟩
abbrev b_PK_writeBeginning : ByteArray := prog_4_method_3_code
def y_PK_writeBeginning : MethodName := ⟨R_PK, "writeBeginning", "()V"⟩
abbrev b_PK_writeRow : ByteArray := prog_4_method_4_code
def y_PK_writeRow : MethodName := ⟨R_PK, "writeRow", "(I)V"⟩
abbrev b_PK_childOf : ByteArray := prog_4_method_5_code
def y_PK_childOf : MethodName := ⟨R_PK, "childOf", "(II)I"⟩
abbrev b_PK_addChild : ByteArray := prog_4_method_6_code
def y_PK_addChild : MethodName := ⟨R_PK, "addChild", "(II)V"⟩
abbrev b_UN_init : ByteArray := prog_5_method_1_code
def y_UN_init : MethodName := ⟨R_UN, "<init>", "()V"⟩
abbrev b_UN_read : ByteArray := prog_5_method_2_code
def y_UN_read : MethodName := ⟨R_UN, "read", "([BII[B)I"⟩
abbrev b_UN_codeAt : ByteArray := prog_5_method_3_code
def y_UN_codeAt : MethodName := ⟨R_UN, "codeAt", "([BIII)I"⟩
abbrev b_UN_takeCode : ByteArray := prog_5_method_4_code
def y_UN_takeCode : MethodName := ⟨R_UN, "takeCode", "(I)V"⟩
abbrev b_UN_repeat : ByteArray := prog_5_method_5_code
def y_UN_repeat : MethodName := ⟨R_UN, "repeat", "(II)V"⟩
abbrev b_LW_feed : ByteArray := method_3_code
def y_LW_feed : MethodName := ⟨R_LW, "feed", "(LLzwBox;IIIII[J)I"⟩
abbrev b_LW_end : ByteArray := method_4_code
def y_LW_end : MethodName := ⟨R_LW, "end", "(LLzwBox;I[J)I"⟩
abbrev b_LW_unpack : ByteArray := method_5_code
def y_LW_unpack : MethodName := ⟨R_LW, "unpack", "(LLzwBox;I[J)I"⟩
abbrev b_LW_pack : ByteArray := method_6_code
def y_LW_pack : MethodName := ⟨R_LW, "pack", "(LLzwBox;I[J)I"⟩
abbrev b_LW_mask : ByteArray := method_7_code
def y_LW_mask : MethodName := ⟨R_LW, "mask", "(LLzwBox;I)I"⟩
abbrev b_LW_word : ByteArray := method_8_code
def y_LW_word : MethodName := ⟨R_LW, "word", "(LLzwBox;I[J)I"⟩
abbrev b_LW_count : ByteArray := method_9_code
def y_LW_count : MethodName := ⟨R_LW, "count", "(LLzwBox;I[J)I"⟩
abbrev b_LW_law : ByteArray := code
def y_LW_law : MethodName := ⟨R_LW, "law", "([I)Z"⟩
end
section
/-- the words that hold of warmer tables too -/
def znc : List Cond := [.not (.castable "java/lang/UnsupportedOperationException" "java/lang/IllegalArgumentException"), .not (.castable "java/lang/IndexOutOfBoundsException" "java/lang/IllegalArgumentException"), .not (.castable "java/lang/IndexOutOfBoundsException" "java/lang/UnsupportedOperationException")]
def zB : List Cond := (znc ++ lw_tbl).filter zx_gw
theorem zB_good : ∀ w ∈ zB, zx_good w := fun w h => zx_gw_ok (List.mem_filter.mp h).2
theorem zB_t {w : Cond} {i : Nat} (h : tables_1[i]? = some w) (g : zx_gw w = true) : w ∈ zB := List.mem_filter.mpr ⟨List.mem_append_right _ (List.mem_append_right _ (List.mem_of_getElem? h)), g⟩
theorem zB_s {q : MethodName × Nat} {i : Nat} (h : lw_privs[i]? = some q) : Cond.selects q.1.cls q.1 q.1 ∈ zB := List.mem_filter.mpr ⟨List.mem_append_right _ (List.mem_append_left _ (by unfold k2_sels; exact List.mem_map.mpr ⟨q, List.mem_of_getElem? h, rfl⟩)), by rfl⟩
theorem zw_0 : Cond.initialized "LzwBoxLaw" ∈ zB := zB_t (i := 0) (by decide +kernel) (by decide +kernel)
theorem zw_1 : Cond.initialized "LzwBox" ∈ zB := zB_t (i := 1) (by decide +kernel) (by decide +kernel)
theorem zw_2 : Cond.initialized "LzwBox$Unpacker" ∈ zB := zB_t (i := 2) (by decide +kernel) (by decide +kernel)
theorem zw_3 : Cond.initialized "LzwBox$Numbering" ∈ zB := zB_t (i := 3) (by decide +kernel) (by decide +kernel)
theorem zw_4 : Cond.initialized "LzwBox$Packer" ∈ zB := zB_t (i := 4) (by decide +kernel) (by decide +kernel)
theorem zw_5 : Cond.initialized "LzwBox$BitSink" ∈ zB := zB_t (i := 5) (by decide +kernel) (by decide +kernel)
theorem zw_6 : Cond.initialized "LzwBoxModel" ∈ zB := zB_t (i := 6) (by decide +kernel) (by decide +kernel)
theorem zw_8 : Cond.initialized "java/lang/Exception" ∈ zB := zB_t (i := 8) (by decide +kernel) (by decide +kernel)
theorem zw_9 : Cond.initialized "java/lang/RuntimeException" ∈ zB := zB_t (i := 9) (by decide +kernel) (by decide +kernel)
theorem zw_10 : Cond.initialized "java/lang/IndexOutOfBoundsException" ∈ zB := zB_t (i := 10) (by decide +kernel) (by decide +kernel)
theorem zw_11 : Cond.initialized "java/lang/IllegalArgumentException" ∈ zB := zB_t (i := 11) (by decide +kernel) (by decide +kernel)
theorem zw_12 : Cond.initialized "java/lang/System" ∈ zB := zB_t (i := 12) (by decide +kernel) (by decide +kernel)
theorem zw_13 : Cond.initialized "java/lang/UnsupportedOperationException" ∈ zB := zB_t (i := 13) (by decide +kernel) (by decide +kernel)
theorem zw_14 : Cond.initialized "java/util/Arrays" ∈ zB := zB_t (i := 14) (by decide +kernel) (by decide +kernel)
theorem zw_24 : Cond.initialized "java/lang/ArrayIndexOutOfBoundsException" ∈ zB := zB_t (i := 24) (by decide +kernel) (by decide +kernel)
theorem zw_25 : Cond.classLink "LzwBoxLaw" (8 : Nat) "LzwBox" ∈ zB := zB_t (i := 25) (by decide +kernel) (by decide +kernel)
theorem zw_26 : Cond.instantiable "LzwBox" (7 : Nat) ∈ zB := zB_t (i := 26) (by decide +kernel) (by decide +kernel)
theorem zw_27 : Cond.methodLink "LzwBoxLaw" (40 : Nat) ({ cls := "LzwBox", name := "<init>", desc := "()V" } : MethodName) ∈ zB := zB_t (i := 27) (by decide +kernel) (by decide +kernel)
theorem zw_28 : Cond.instanceMethod ({ cls := "LzwBox", name := "<init>", desc := "()V" } : MethodName) ∈ zB := zB_t (i := 28) (by decide +kernel) (by decide +kernel)
theorem zw_29 : Cond.code ({ cls := "LzwBox", name := "<init>", desc := "()V" } : MethodName) prog_1_method_1_code (1 : Nat) (Option.none : Option FieldType) ∈ zB := zB_t (i := 29) (by decide +kernel) (by decide +kernel)
theorem zw_30 : Cond.methodLink "LzwBox" (1 : Nat) ({ cls := "java/lang/Object", name := "<init>", desc := "()V" } : MethodName) ∈ zB := zB_t (i := 30) (by decide +kernel) (by decide +kernel)
theorem zw_31 : Cond.instanceMethod ({ cls := "java/lang/Object", name := "<init>", desc := "()V" } : MethodName) ∈ zB := zB_t (i := 31) (by decide +kernel) (by decide +kernel)
theorem zw_32 : Cond.code ({ cls := "java/lang/Object", name := "<init>", desc := "()V" } : MethodName) object_method_1_code (1 : Nat) (Option.none : Option FieldType) ∈ zB := zB_t (i := 32) (by decide +kernel) (by decide +kernel)
theorem zw_33 : Cond.classLink "LzwBox" (26 : Nat) "LzwBox$Unpacker" ∈ zB := zB_t (i := 33) (by decide +kernel) (by decide +kernel)
theorem zw_34 : Cond.instantiable "LzwBox$Unpacker" (7 : Nat) ∈ zB := zB_t (i := 34) (by decide +kernel) (by decide +kernel)
theorem zw_35 : Cond.methodLink "LzwBox" (28 : Nat) ({ cls := "LzwBox$Unpacker", name := "<init>", desc := "()V" } : MethodName) ∈ zB := zB_t (i := 35) (by decide +kernel) (by decide +kernel)
theorem zw_36 : Cond.instanceMethod ({ cls := "LzwBox$Unpacker", name := "<init>", desc := "()V" } : MethodName) ∈ zB := zB_t (i := 36) (by decide +kernel) (by decide +kernel)
theorem zw_37 : Cond.code ({ cls := "LzwBox$Unpacker", name := "<init>", desc := "()V" } : MethodName) prog_5_method_1_code (1 : Nat) (Option.none : Option FieldType) ∈ zB := zB_t (i := 37) (by decide +kernel) (by decide +kernel)
theorem zw_38 : Cond.methodLink "LzwBox$Unpacker" (3 : Nat) ({ cls := "java/lang/Object", name := "<init>", desc := "()V" } : MethodName) ∈ zB := zB_t (i := 38) (by decide +kernel) (by decide +kernel)
theorem zw_39 : Cond.classLink "LzwBox$Unpacker" (9 : Nat) "LzwBox$Numbering" ∈ zB := zB_t (i := 39) (by decide +kernel) (by decide +kernel)
theorem zw_40 : Cond.instantiable "LzwBox$Numbering" (4 : Nat) ∈ zB := zB_t (i := 40) (by decide +kernel) (by decide +kernel)
theorem zw_41 : Cond.methodLinkNest "LzwBox$Unpacker" (11 : Nat) ({ cls := "LzwBox$Numbering", name := "<init>", desc := "()V" } : MethodName) "LzwBox" ∈ zB := zB_t (i := 41) (by decide +kernel) (by decide +kernel)
theorem zw_42 : Cond.instanceMethod ({ cls := "LzwBox$Numbering", name := "<init>", desc := "()V" } : MethodName) ∈ zB := zB_t (i := 42) (by decide +kernel) (by decide +kernel)
theorem zw_43 : Cond.code ({ cls := "LzwBox$Numbering", name := "<init>", desc := "()V" } : MethodName) prog_3_method_1_code (1 : Nat) (Option.none : Option FieldType) ∈ zB := zB_t (i := 43) (by decide +kernel) (by decide +kernel)
theorem zw_44 : Cond.methodLink "LzwBox$Numbering" (3 : Nat) ({ cls := "java/lang/Object", name := "<init>", desc := "()V" } : MethodName) ∈ zB := zB_t (i := 44) (by decide +kernel) (by decide +kernel)
theorem zw_45 : Cond.fieldLink "LzwBox$Numbering" (9 : Nat) "LzwBox$Numbering" "m" "I" ∈ zB := zB_t (i := 45) (by decide +kernel) (by decide +kernel)
theorem zw_46 : Cond.fieldLinkNest "LzwBox$Unpacker" (43 : Nat) "LzwBox$Numbering" "bits" "I" "LzwBox" ∈ zB := zB_t (i := 46) (by decide +kernel) (by decide +kernel)
theorem zw_47 : Cond.fieldLinkNest "LzwBox$Packer" (61 : Nat) "LzwBox$Numbering" "bits" "I" "LzwBox" ∈ zB := zB_t (i := 47) (by decide +kernel) (by decide +kernel)
theorem zw_48 : Cond.fieldLink "LzwBox$Numbering" (18 : Nat) "LzwBox$Numbering" "bits" "I" ∈ zB := zB_t (i := 48) (by decide +kernel) (by decide +kernel)
theorem zw_49 : Cond.fieldLink "LzwBox$Numbering" (21 : Nat) "LzwBox$Numbering" "nextRow" "I" ∈ zB := zB_t (i := 49) (by decide +kernel) (by decide +kernel)
theorem zw_50 : Cond.fieldLinkNest "LzwBox$Unpacker" (70 : Nat) "LzwBox$Numbering" "nextRow" "I" "LzwBox" ∈ zB := zB_t (i := 50) (by decide +kernel) (by decide +kernel)
theorem zw_51 : Cond.fieldLinkNest "LzwBox$Packer" (93 : Nat) "LzwBox$Numbering" "nextRow" "I" "LzwBox" ∈ zB := zB_t (i := 51) (by decide +kernel) (by decide +kernel)
theorem zw_52 : Cond.fieldLink "LzwBox$Numbering" (24 : Nat) "LzwBox$Numbering" "first" "Z" ∈ zB := zB_t (i := 52) (by decide +kernel) (by decide +kernel)
theorem zw_53 : Cond.lays "LzwBox$Numbering" "LzwBox$Numbering" "m" "I" ∈ zB := zB_t (i := 53) (by decide +kernel) (by decide +kernel)
theorem zw_55 : Cond.lays "LzwBox$Numbering" "LzwBox$Numbering" "bits" "I" ∈ zB := zB_t (i := 55) (by decide +kernel) (by decide +kernel)
theorem zw_57 : Cond.lays "LzwBox$Numbering" "LzwBox$Numbering" "nextRow" "I" ∈ zB := zB_t (i := 57) (by decide +kernel) (by decide +kernel)
theorem zw_59 : Cond.lays "LzwBox$Numbering" "LzwBox$Numbering" "first" "Z" ∈ zB := zB_t (i := 59) (by decide +kernel) (by decide +kernel)
theorem zw_62 : Cond.arrayClass FieldType.byte ∈ zB := zB_t (i := 62) (by decide +kernel) (by decide +kernel)
theorem zw_63 : Cond.fieldLink "LzwBox$Unpacker" (12 : Nat) "LzwBox$Unpacker" "numbering" "LLzwBox$Numbering;" ∈ zB := zB_t (i := 63) (by decide +kernel) (by decide +kernel)
theorem zw_64 : Cond.fieldLink "LzwBox$Unpacker" (18 : Nat) "LzwBox$Unpacker" "rowStart" "[I" ∈ zB := zB_t (i := 64) (by decide +kernel) (by decide +kernel)
theorem zw_65 : Cond.fieldLink "LzwBox$Unpacker" (22 : Nat) "LzwBox$Unpacker" "rowLength" "[I" ∈ zB := zB_t (i := 65) (by decide +kernel) (by decide +kernel)
theorem zw_66 : Cond.fieldLink "LzwBox$Unpacker" (25 : Nat) "LzwBox$Unpacker" "indices" "[B" ∈ zB := zB_t (i := 66) (by decide +kernel) (by decide +kernel)
theorem zw_67 : Cond.fieldLink "LzwBox$Unpacker" (29 : Nat) "LzwBox$Unpacker" "made" "I" ∈ zB := zB_t (i := 67) (by decide +kernel) (by decide +kernel)
theorem zw_68 : Cond.fieldLink "LzwBox$Unpacker" (33 : Nat) "LzwBox$Unpacker" "lastStart" "I" ∈ zB := zB_t (i := 68) (by decide +kernel) (by decide +kernel)
theorem zw_69 : Cond.fieldLink "LzwBox$Unpacker" (36 : Nat) "LzwBox$Unpacker" "lastLength" "I" ∈ zB := zB_t (i := 69) (by decide +kernel) (by decide +kernel)
theorem zw_70 : Cond.laysFinal "LzwBox$Unpacker" "LzwBox$Unpacker" "numbering" "LLzwBox$Numbering;" ∈ zB := zB_t (i := 70) (by decide +kernel) (by decide +kernel)
theorem zw_72 : Cond.laysFinal "LzwBox$Unpacker" "LzwBox$Unpacker" "rowStart" "[I" ∈ zB := zB_t (i := 72) (by decide +kernel) (by decide +kernel)
theorem zw_74 : Cond.laysFinal "LzwBox$Unpacker" "LzwBox$Unpacker" "rowLength" "[I" ∈ zB := zB_t (i := 74) (by decide +kernel) (by decide +kernel)
theorem zw_76 : Cond.lays "LzwBox$Unpacker" "LzwBox$Unpacker" "indices" "[B" ∈ zB := zB_t (i := 76) (by decide +kernel) (by decide +kernel)
theorem zw_78 : Cond.lays "LzwBox$Unpacker" "LzwBox$Unpacker" "made" "I" ∈ zB := zB_t (i := 78) (by decide +kernel) (by decide +kernel)
theorem zw_80 : Cond.lays "LzwBox$Unpacker" "LzwBox$Unpacker" "lastStart" "I" ∈ zB := zB_t (i := 80) (by decide +kernel) (by decide +kernel)
theorem zw_82 : Cond.lays "LzwBox$Unpacker" "LzwBox$Unpacker" "lastLength" "I" ∈ zB := zB_t (i := 82) (by decide +kernel) (by decide +kernel)
theorem zw_85 : Cond.arrayClass FieldType.int ∈ zB := zB_t (i := 85) (by decide +kernel) (by decide +kernel)
theorem zw_86 : Cond.classLink "LzwBox" (33 : Nat) "LzwBox$Packer" ∈ zB := zB_t (i := 86) (by decide +kernel) (by decide +kernel)
theorem zw_87 : Cond.instantiable "LzwBox$Packer" (5 : Nat) ∈ zB := zB_t (i := 87) (by decide +kernel) (by decide +kernel)
theorem zw_88 : Cond.methodLink "LzwBox" (35 : Nat) ({ cls := "LzwBox$Packer", name := "<init>", desc := "()V" } : MethodName) ∈ zB := zB_t (i := 88) (by decide +kernel) (by decide +kernel)
theorem zw_89 : Cond.instanceMethod ({ cls := "LzwBox$Packer", name := "<init>", desc := "()V" } : MethodName) ∈ zB := zB_t (i := 89) (by decide +kernel) (by decide +kernel)
theorem zw_90 : Cond.code ({ cls := "LzwBox$Packer", name := "<init>", desc := "()V" } : MethodName) prog_4_method_1_code (1 : Nat) (Option.none : Option FieldType) ∈ zB := zB_t (i := 90) (by decide +kernel) (by decide +kernel)
theorem zw_91 : Cond.methodLink "LzwBox$Packer" (3 : Nat) ({ cls := "java/lang/Object", name := "<init>", desc := "()V" } : MethodName) ∈ zB := zB_t (i := 91) (by decide +kernel) (by decide +kernel)
theorem zw_92 : Cond.classLink "LzwBox$Packer" (9 : Nat) "LzwBox$Numbering" ∈ zB := zB_t (i := 92) (by decide +kernel) (by decide +kernel)
theorem zw_93 : Cond.methodLinkNest "LzwBox$Packer" (11 : Nat) ({ cls := "LzwBox$Numbering", name := "<init>", desc := "()V" } : MethodName) "LzwBox" ∈ zB := zB_t (i := 93) (by decide +kernel) (by decide +kernel)
theorem zw_94 : Cond.classLink "LzwBox$Packer" (18 : Nat) "LzwBox$BitSink" ∈ zB := zB_t (i := 94) (by decide +kernel) (by decide +kernel)
theorem zw_95 : Cond.instantiable "LzwBox$BitSink" (4 : Nat) ∈ zB := zB_t (i := 95) (by decide +kernel) (by decide +kernel)
theorem zw_96 : Cond.methodLink "LzwBox$Packer" (20 : Nat) ({ cls := "LzwBox$BitSink", name := "<init>", desc := "()V" } : MethodName) ∈ zB := zB_t (i := 96) (by decide +kernel) (by decide +kernel)
theorem zw_97 : Cond.instanceMethod ({ cls := "LzwBox$BitSink", name := "<init>", desc := "()V" } : MethodName) ∈ zB := zB_t (i := 97) (by decide +kernel) (by decide +kernel)
theorem zw_98 : Cond.code ({ cls := "LzwBox$BitSink", name := "<init>", desc := "()V" } : MethodName) prog_2_method_1_code (1 : Nat) (Option.none : Option FieldType) ∈ zB := zB_t (i := 98) (by decide +kernel) (by decide +kernel)
theorem zw_99 : Cond.methodLink "LzwBox$BitSink" (3 : Nat) ({ cls := "java/lang/Object", name := "<init>", desc := "()V" } : MethodName) ∈ zB := zB_t (i := 99) (by decide +kernel) (by decide +kernel)
theorem zw_100 : Cond.fieldLink "LzwBox$BitSink" (9 : Nat) "LzwBox$BitSink" "bytes" "[B" ∈ zB := zB_t (i := 100) (by decide +kernel) (by decide +kernel)
theorem zw_101 : Cond.fieldLink "LzwBox$BitSink" (15 : Nat) "LzwBox$BitSink" "length" "I" ∈ zB := zB_t (i := 101) (by decide +kernel) (by decide +kernel)
theorem zw_102 : Cond.fieldLink "LzwBox$BitSink" (19 : Nat) "LzwBox$BitSink" "waiting" "I" ∈ zB := zB_t (i := 102) (by decide +kernel) (by decide +kernel)
theorem zw_103 : Cond.fieldLink "LzwBox$BitSink" (22 : Nat) "LzwBox$BitSink" "waitingBits" "I" ∈ zB := zB_t (i := 103) (by decide +kernel) (by decide +kernel)
theorem zw_104 : Cond.lays "LzwBox$BitSink" "LzwBox$BitSink" "bytes" "[B" ∈ zB := zB_t (i := 104) (by decide +kernel) (by decide +kernel)
theorem zw_106 : Cond.lays "LzwBox$BitSink" "LzwBox$BitSink" "length" "I" ∈ zB := zB_t (i := 106) (by decide +kernel) (by decide +kernel)
theorem zw_108 : Cond.lays "LzwBox$BitSink" "LzwBox$BitSink" "waiting" "I" ∈ zB := zB_t (i := 108) (by decide +kernel) (by decide +kernel)
theorem zw_110 : Cond.lays "LzwBox$BitSink" "LzwBox$BitSink" "waitingBits" "I" ∈ zB := zB_t (i := 110) (by decide +kernel) (by decide +kernel)
theorem zw_113 : Cond.fieldLink "LzwBox$Packer" (12 : Nat) "LzwBox$Packer" "numbering" "LLzwBox$Numbering;" ∈ zB := zB_t (i := 113) (by decide +kernel) (by decide +kernel)
theorem zw_114 : Cond.fieldLink "LzwBox$Packer" (21 : Nat) "LzwBox$Packer" "sink" "LLzwBox$BitSink;" ∈ zB := zB_t (i := 114) (by decide +kernel) (by decide +kernel)
theorem zw_115 : Cond.fieldLink "LzwBox$Packer" (25 : Nat) "LzwBox$Packer" "firstChild" "[I" ∈ zB := zB_t (i := 115) (by decide +kernel) (by decide +kernel)
theorem zw_116 : Cond.fieldLink "LzwBox$Packer" (29 : Nat) "LzwBox$Packer" "nextSibling" "[I" ∈ zB := zB_t (i := 116) (by decide +kernel) (by decide +kernel)
theorem zw_117 : Cond.fieldLink "LzwBox$Packer" (32 : Nat) "LzwBox$Packer" "lastIndex" "[I" ∈ zB := zB_t (i := 117) (by decide +kernel) (by decide +kernel)
theorem zw_118 : Cond.laysFinal "LzwBox$Packer" "LzwBox$Packer" "numbering" "LLzwBox$Numbering;" ∈ zB := zB_t (i := 118) (by decide +kernel) (by decide +kernel)
theorem zw_120 : Cond.laysFinal "LzwBox$Packer" "LzwBox$Packer" "sink" "LLzwBox$BitSink;" ∈ zB := zB_t (i := 120) (by decide +kernel) (by decide +kernel)
theorem zw_122 : Cond.laysFinal "LzwBox$Packer" "LzwBox$Packer" "firstChild" "[I" ∈ zB := zB_t (i := 122) (by decide +kernel) (by decide +kernel)
theorem zw_124 : Cond.laysFinal "LzwBox$Packer" "LzwBox$Packer" "nextSibling" "[I" ∈ zB := zB_t (i := 124) (by decide +kernel) (by decide +kernel)
theorem zw_126 : Cond.laysFinal "LzwBox$Packer" "LzwBox$Packer" "lastIndex" "[I" ∈ zB := zB_t (i := 126) (by decide +kernel) (by decide +kernel)
theorem zw_129 : Cond.fieldLink "LzwBox" (9 : Nat) "LzwBox" "tape" "[B" ∈ zB := zB_t (i := 129) (by decide +kernel) (by decide +kernel)
theorem zw_130 : Cond.fieldLink "LzwBox" (19 : Nat) "LzwBox" "tapeLength" "I" ∈ zB := zB_t (i := 130) (by decide +kernel) (by decide +kernel)
theorem zw_131 : Cond.fieldLink "LzwBox" (13 : Nat) "LzwBox" "result" "[B" ∈ zB := zB_t (i := 131) (by decide +kernel) (by decide +kernel)
theorem zw_132 : Cond.fieldLink "LzwBox" (16 : Nat) "LzwBox" "spare" "[B" ∈ zB := zB_t (i := 132) (by decide +kernel) (by decide +kernel)
theorem zw_133 : Cond.fieldLink "LzwBox" (23 : Nat) "LzwBox" "resultLength" "I" ∈ zB := zB_t (i := 133) (by decide +kernel) (by decide +kernel)
theorem zw_134 : Cond.fieldLink "LzwBox" (29 : Nat) "LzwBox" "unpacker" "LLzwBox$Unpacker;" ∈ zB := zB_t (i := 134) (by decide +kernel) (by decide +kernel)
theorem zw_135 : Cond.fieldLink "LzwBox" (36 : Nat) "LzwBox" "packer" "LLzwBox$Packer;" ∈ zB := zB_t (i := 135) (by decide +kernel) (by decide +kernel)
theorem zw_136 : Cond.laysFinal "LzwBox" "LzwBox" "tape" "[B" ∈ zB := zB_t (i := 136) (by decide +kernel) (by decide +kernel)
theorem zw_138 : Cond.lays "LzwBox" "LzwBox" "tapeLength" "I" ∈ zB := zB_t (i := 138) (by decide +kernel) (by decide +kernel)
theorem zw_140 : Cond.lays "LzwBox" "LzwBox" "result" "[B" ∈ zB := zB_t (i := 140) (by decide +kernel) (by decide +kernel)
theorem zw_142 : Cond.lays "LzwBox" "LzwBox" "spare" "[B" ∈ zB := zB_t (i := 142) (by decide +kernel) (by decide +kernel)
theorem zw_144 : Cond.lays "LzwBox" "LzwBox" "resultLength" "I" ∈ zB := zB_t (i := 144) (by decide +kernel) (by decide +kernel)
theorem zw_146 : Cond.laysFinal "LzwBox" "LzwBox" "unpacker" "LLzwBox$Unpacker;" ∈ zB := zB_t (i := 146) (by decide +kernel) (by decide +kernel)
theorem zw_148 : Cond.laysFinal "LzwBox" "LzwBox" "packer" "LLzwBox$Packer;" ∈ zB := zB_t (i := 148) (by decide +kernel) (by decide +kernel)
theorem zw_151 : Cond.methodLink "LzwBoxLaw" (58 : Nat) ({ cls := "LzwBox", name := "again", desc := "()I" } : MethodName) ∈ zB := zB_t (i := 151) (by decide +kernel) (by decide +kernel)
theorem zw_152 : Cond.instanceMethod ({ cls := "LzwBox", name := "again", desc := "()I" } : MethodName) ∈ zB := zB_t (i := 152) (by decide +kernel) (by decide +kernel)
theorem zw_153 : Cond.selects "LzwBox" ({ cls := "LzwBox", name := "again", desc := "()I" } : MethodName) ({ cls := "LzwBox", name := "again", desc := "()I" } : MethodName) ∈ zB := zB_t (i := 153) (by decide +kernel) (by decide +kernel)
theorem zw_154 : Cond.code ({ cls := "LzwBox", name := "again", desc := "()I" } : MethodName) prog_1_method_4_code (1 : Nat) (Option.some FieldType.int) ∈ zB := zB_t (i := 154) (by decide +kernel) (by decide +kernel)
theorem zw_155 : Cond.methodLink "LzwBox" (56 : Nat) ({ cls := "java/lang/System", name := "arraycopy", desc := "(Ljava/lang/Object;ILjava/lang/Object;II)V" } : MethodName) ∈ zB := zB_t (i := 155) (by decide +kernel) (by decide +kernel)
theorem zw_156 : Cond.static ({ cls := "java/lang/System", name := "arraycopy", desc := "(Ljava/lang/Object;ILjava/lang/Object;II)V" } : MethodName) ∈ zB := zB_t (i := 156) (by decide +kernel) (by decide +kernel)
theorem zw_158 : Cond.methodLink "LzwBoxLaw" (44 : Nat) ({ cls := "LzwBoxLaw", name := "feed", desc := "(LLzwBox;IIIII[J)I" } : MethodName) ∈ zB := zB_t (i := 158) (by decide +kernel) (by decide +kernel)
theorem zw_159 : Cond.static ({ cls := "LzwBoxLaw", name := "feed", desc := "(LLzwBox;IIIII[J)I" } : MethodName) ∈ zB := zB_t (i := 159) (by decide +kernel) (by decide +kernel)
theorem zw_160 : Cond.codeWith ({ cls := "LzwBoxLaw", name := "feed", desc := "(LLzwBox;IIIII[J)I" } : MethodName) method_3_code (8 : Nat) (Option.some FieldType.int) [((0 : Nat), (16 : Nat), (19 : Nat), (13 : Nat))] ∈ zB := zB_t (i := 160) (by decide +kernel) (by decide +kernel)
theorem zw_161 : Cond.classLink "LzwBoxLaw" (13 : Nat) "java/lang/IndexOutOfBoundsException" ∈ zB := zB_t (i := 161) (by decide +kernel) (by decide +kernel)
theorem zw_162 : Cond.methodLink "LzwBoxLaw" (7 : Nat) ({ cls := "LzwBox", name := "feed", desc := "(IIIII)I" } : MethodName) ∈ zB := zB_t (i := 162) (by decide +kernel) (by decide +kernel)
theorem zw_163 : Cond.instanceMethod ({ cls := "LzwBox", name := "feed", desc := "(IIIII)I" } : MethodName) ∈ zB := zB_t (i := 163) (by decide +kernel) (by decide +kernel)
theorem zw_164 : Cond.selects "LzwBox" ({ cls := "LzwBox", name := "feed", desc := "(IIIII)I" } : MethodName) ({ cls := "LzwBox", name := "feed", desc := "(IIIII)I" } : MethodName) ∈ zB := zB_t (i := 164) (by decide +kernel) (by decide +kernel)
theorem zw_165 : Cond.code ({ cls := "LzwBox", name := "feed", desc := "(IIIII)I" } : MethodName) prog_1_method_2_code (6 : Nat) (Option.some FieldType.int) ∈ zB := zB_t (i := 165) (by decide +kernel) (by decide +kernel)
theorem zw_166 : Cond.classLink "LzwBox" (40 : Nat) "java/lang/IndexOutOfBoundsException" ∈ zB := zB_t (i := 166) (by decide +kernel) (by decide +kernel)
theorem zw_167 : Cond.instantiable "java/lang/IndexOutOfBoundsException" (6 : Nat) ∈ zB := zB_t (i := 167) (by decide +kernel) (by decide +kernel)
theorem zw_168 : Cond.castable "java/lang/IndexOutOfBoundsException" "java/lang/IndexOutOfBoundsException" ∈ zB := zB_t (i := 168) (by decide +kernel) (by decide +kernel)
theorem zw_175 : Cond.selects "java/lang/IndexOutOfBoundsException" ({ cls := "java/lang/Throwable", name := "fillInStackTrace", desc := "(I)Ljava/lang/Throwable;" } : MethodName) ({ cls := "java/lang/Throwable", name := "fillInStackTrace", desc := "(I)Ljava/lang/Throwable;" } : MethodName) ∈ zB := zB_t (i := 175) (by decide +kernel) (by decide +kernel)
theorem zw_176 : Cond.selects "java/lang/IndexOutOfBoundsException" ({ cls := "java/lang/Throwable", name := "fillInStackTrace", desc := "()Ljava/lang/Throwable;" } : MethodName) ({ cls := "java/lang/Throwable", name := "fillInStackTrace", desc := "()Ljava/lang/Throwable;" } : MethodName) ∈ zB := zB_t (i := 176) (by decide +kernel) (by decide +kernel)
theorem zw_177 : Cond.lays "java/lang/IndexOutOfBoundsException" "java/lang/Throwable" "cause" "Ljava/lang/Throwable;" ∈ zB := zB_t (i := 177) (by decide +kernel) (by decide +kernel)
theorem zw_179 : Cond.lays "java/lang/IndexOutOfBoundsException" "java/lang/Throwable" "stackTrace" "[Ljava/lang/StackTraceElement;" ∈ zB := zB_t (i := 179) (by decide +kernel) (by decide +kernel)
theorem zw_181 : Cond.lays "java/lang/IndexOutOfBoundsException" "java/lang/Throwable" "suppressedExceptions" "Ljava/util/List;" ∈ zB := zB_t (i := 181) (by decide +kernel) (by decide +kernel)
theorem zw_182 : Cond.lays "java/lang/Throwable" "java/lang/Throwable" "suppressedExceptions" "Ljava/util/List;" ∈ zB := zB_t (i := 182) (by decide +kernel) (by decide +kernel)
theorem zw_183 : Cond.lays "java/lang/IndexOutOfBoundsException" "java/lang/Throwable" "detailMessage" "Ljava/lang/String;" ∈ zB := zB_t (i := 183) (by decide +kernel) (by decide +kernel)
theorem zw_185 : Cond.lays "java/lang/IndexOutOfBoundsException" "java/lang/Throwable" "backtrace" "Ljava/lang/Object;" ∈ zB := zB_t (i := 185) (by decide +kernel) (by decide +kernel)
theorem zw_191 : Cond.methodLink "java/lang/Throwable" (1 : Nat) ({ cls := "java/lang/Object", name := "<init>", desc := "()V" } : MethodName) ∈ zB := zB_t (i := 191) (by decide +kernel) (by decide +kernel)
theorem zw_199 : Cond.selects "java/lang/ArrayIndexOutOfBoundsException" ({ cls := "java/lang/Throwable", name := "fillInStackTrace", desc := "()Ljava/lang/Throwable;" } : MethodName) ({ cls := "java/lang/Throwable", name := "fillInStackTrace", desc := "()Ljava/lang/Throwable;" } : MethodName) ∈ zB := zB_t (i := 199) (by decide +kernel) (by decide +kernel)
theorem zw_200 : Cond.selects "java/lang/IllegalArgumentException" ({ cls := "java/lang/Throwable", name := "fillInStackTrace", desc := "()Ljava/lang/Throwable;" } : MethodName) ({ cls := "java/lang/Throwable", name := "fillInStackTrace", desc := "()Ljava/lang/Throwable;" } : MethodName) ∈ zB := zB_t (i := 200) (by decide +kernel) (by decide +kernel)
theorem zw_201 : Cond.selects "java/lang/UnsupportedOperationException" ({ cls := "java/lang/Throwable", name := "fillInStackTrace", desc := "()Ljava/lang/Throwable;" } : MethodName) ({ cls := "java/lang/Throwable", name := "fillInStackTrace", desc := "()Ljava/lang/Throwable;" } : MethodName) ∈ zB := zB_t (i := 201) (by decide +kernel) (by decide +kernel)
theorem zw_208 : Cond.stringRef "LzwBox" (42 : Nat) "the tape would be too long" ∈ zB := zB_t (i := 208) (by decide +kernel) (by decide +kernel)
theorem zw_209 : Cond.methodLink "LzwBox" (44 : Nat) ({ cls := "java/lang/IndexOutOfBoundsException", name := "<init>", desc := "(Ljava/lang/String;)V" } : MethodName) ∈ zB := zB_t (i := 209) (by decide +kernel) (by decide +kernel)
theorem zw_210 : Cond.instanceMethod ({ cls := "java/lang/IndexOutOfBoundsException", name := "<init>", desc := "(Ljava/lang/String;)V" } : MethodName) ∈ zB := zB_t (i := 210) (by decide +kernel) (by decide +kernel)
theorem zw_211 : Cond.code ({ cls := "java/lang/IndexOutOfBoundsException", name := "<init>", desc := "(Ljava/lang/String;)V" } : MethodName) prog_13_method_2_code (2 : Nat) (Option.none : Option FieldType) ∈ zB := zB_t (i := 211) (by decide +kernel) (by decide +kernel)
theorem zw_212 : Cond.methodLink "java/lang/IndexOutOfBoundsException" (7 : Nat) ({ cls := "java/lang/RuntimeException", name := "<init>", desc := "(Ljava/lang/String;)V" } : MethodName) ∈ zB := zB_t (i := 212) (by decide +kernel) (by decide +kernel)
theorem zw_213 : Cond.instanceMethod ({ cls := "java/lang/RuntimeException", name := "<init>", desc := "(Ljava/lang/String;)V" } : MethodName) ∈ zB := zB_t (i := 213) (by decide +kernel) (by decide +kernel)
theorem zw_214 : Cond.code ({ cls := "java/lang/RuntimeException", name := "<init>", desc := "(Ljava/lang/String;)V" } : MethodName) prog_16_method_2_code (2 : Nat) (Option.none : Option FieldType) ∈ zB := zB_t (i := 214) (by decide +kernel) (by decide +kernel)
theorem zw_215 : Cond.methodLink "java/lang/RuntimeException" (7 : Nat) ({ cls := "java/lang/Exception", name := "<init>", desc := "(Ljava/lang/String;)V" } : MethodName) ∈ zB := zB_t (i := 215) (by decide +kernel) (by decide +kernel)
theorem zw_216 : Cond.instanceMethod ({ cls := "java/lang/Exception", name := "<init>", desc := "(Ljava/lang/String;)V" } : MethodName) ∈ zB := zB_t (i := 216) (by decide +kernel) (by decide +kernel)
theorem zw_217 : Cond.code ({ cls := "java/lang/Exception", name := "<init>", desc := "(Ljava/lang/String;)V" } : MethodName) prog_11_method_2_code (2 : Nat) (Option.none : Option FieldType) ∈ zB := zB_t (i := 217) (by decide +kernel) (by decide +kernel)
theorem zw_218 : Cond.methodLink "java/lang/Exception" (7 : Nat) ({ cls := "java/lang/Throwable", name := "<init>", desc := "(Ljava/lang/String;)V" } : MethodName) ∈ zB := zB_t (i := 218) (by decide +kernel) (by decide +kernel)
theorem zw_225 : Cond.fieldLink "java/lang/Throwable" (24 : Nat) "java/lang/Throwable" "suppressedExceptions" "Ljava/util/List;" ∈ zB := zB_t (i := 225) (by decide +kernel) (by decide +kernel)
theorem zw_230 : Cond.lays "java/lang/IndexOutOfBoundsException" "java/lang/Throwable" "depth" "I" ∈ zB := zB_t (i := 230) (by decide +kernel) (by decide +kernel)
theorem zw_234 : Cond.methodLink "LzwBox" (47 : Nat) ({ cls := "LzwBox", name := "addToTape", desc := "(I)V" } : MethodName) ∈ zB := zB_t (i := 234) (by decide +kernel) (by decide +kernel)
theorem zw_236 : Cond.instanceMethod ({ cls := "LzwBox", name := "addToTape", desc := "(I)V" } : MethodName) ∈ zB := zB_t (i := 236) (by decide +kernel) (by decide +kernel)
theorem zw_237 : Cond.code ({ cls := "LzwBox", name := "addToTape", desc := "(I)V" } : MethodName) prog_1_method_11_code (3 : Nat) (Option.none : Option FieldType) ∈ zB := zB_t (i := 237) (by decide +kernel) (by decide +kernel)
theorem zw_238 : Cond.methodLink "LzwBoxLaw" (54 : Nat) ({ cls := "LzwBoxLaw", name := "end", desc := "(LLzwBox;I[J)I" } : MethodName) ∈ zB := zB_t (i := 238) (by decide +kernel) (by decide +kernel)
theorem zw_239 : Cond.static ({ cls := "LzwBoxLaw", name := "end", desc := "(LLzwBox;I[J)I" } : MethodName) ∈ zB := zB_t (i := 239) (by decide +kernel) (by decide +kernel)
theorem zw_240 : Cond.codeWith ({ cls := "LzwBoxLaw", name := "end", desc := "(LLzwBox;I[J)I" } : MethodName) method_4_code (4 : Nat) (Option.some FieldType.int) [((0 : Nat), (9 : Nat), (12 : Nat), (19 : Nat))] ∈ zB := zB_t (i := 240) (by decide +kernel) (by decide +kernel)
theorem zw_241 : Cond.classLink "LzwBoxLaw" (19 : Nat) "java/lang/IllegalArgumentException" ∈ zB := zB_t (i := 241) (by decide +kernel) (by decide +kernel)
theorem zw_242 : Cond.methodLink "LzwBoxLaw" (15 : Nat) ({ cls := "LzwBox", name := "end", desc := "(I)I" } : MethodName) ∈ zB := zB_t (i := 242) (by decide +kernel) (by decide +kernel)
theorem zw_243 : Cond.instanceMethod ({ cls := "LzwBox", name := "end", desc := "(I)I" } : MethodName) ∈ zB := zB_t (i := 243) (by decide +kernel) (by decide +kernel)
theorem zw_244 : Cond.selects "LzwBox" ({ cls := "LzwBox", name := "end", desc := "(I)I" } : MethodName) ({ cls := "LzwBox", name := "end", desc := "(I)I" } : MethodName) ∈ zB := zB_t (i := 244) (by decide +kernel) (by decide +kernel)
theorem zw_245 : Cond.code ({ cls := "LzwBox", name := "end", desc := "(I)I" } : MethodName) prog_1_method_3_code (2 : Nat) (Option.some FieldType.int) ∈ zB := zB_t (i := 245) (by decide +kernel) (by decide +kernel)
theorem zw_246 : Cond.classLink "LzwBox" (51 : Nat) "java/lang/IllegalArgumentException" ∈ zB := zB_t (i := 246) (by decide +kernel) (by decide +kernel)
theorem zw_247 : Cond.instantiable "java/lang/IllegalArgumentException" (6 : Nat) ∈ zB := zB_t (i := 247) (by decide +kernel) (by decide +kernel)
theorem zw_248 : Cond.castable "java/lang/IllegalArgumentException" "java/lang/IllegalArgumentException" ∈ zB := zB_t (i := 248) (by decide +kernel) (by decide +kernel)
theorem zw_249 : Cond.selects "java/lang/IllegalArgumentException" ({ cls := "java/lang/Throwable", name := "fillInStackTrace", desc := "(I)Ljava/lang/Throwable;" } : MethodName) ({ cls := "java/lang/Throwable", name := "fillInStackTrace", desc := "(I)Ljava/lang/Throwable;" } : MethodName) ∈ zB := zB_t (i := 249) (by decide +kernel) (by decide +kernel)
theorem zw_250 : Cond.lays "java/lang/IllegalArgumentException" "java/lang/Throwable" "cause" "Ljava/lang/Throwable;" ∈ zB := zB_t (i := 250) (by decide +kernel) (by decide +kernel)
theorem zw_251 : Cond.lays "java/lang/IllegalArgumentException" "java/lang/Throwable" "stackTrace" "[Ljava/lang/StackTraceElement;" ∈ zB := zB_t (i := 251) (by decide +kernel) (by decide +kernel)
theorem zw_252 : Cond.lays "java/lang/IllegalArgumentException" "java/lang/Throwable" "suppressedExceptions" "Ljava/util/List;" ∈ zB := zB_t (i := 252) (by decide +kernel) (by decide +kernel)
theorem zw_253 : Cond.lays "java/lang/IllegalArgumentException" "java/lang/Throwable" "detailMessage" "Ljava/lang/String;" ∈ zB := zB_t (i := 253) (by decide +kernel) (by decide +kernel)
theorem zw_254 : Cond.lays "java/lang/IllegalArgumentException" "java/lang/Throwable" "backtrace" "Ljava/lang/Object;" ∈ zB := zB_t (i := 254) (by decide +kernel) (by decide +kernel)
theorem zw_255 : Cond.stringRef "LzwBox" (53 : Nat) "the tape has no such length" ∈ zB := zB_t (i := 255) (by decide +kernel) (by decide +kernel)
theorem zw_256 : Cond.methodLink "LzwBox" (55 : Nat) ({ cls := "java/lang/IllegalArgumentException", name := "<init>", desc := "(Ljava/lang/String;)V" } : MethodName) ∈ zB := zB_t (i := 256) (by decide +kernel) (by decide +kernel)
theorem zw_257 : Cond.instanceMethod ({ cls := "java/lang/IllegalArgumentException", name := "<init>", desc := "(Ljava/lang/String;)V" } : MethodName) ∈ zB := zB_t (i := 257) (by decide +kernel) (by decide +kernel)
theorem zw_258 : Cond.code ({ cls := "java/lang/IllegalArgumentException", name := "<init>", desc := "(Ljava/lang/String;)V" } : MethodName) prog_12_method_2_code (2 : Nat) (Option.none : Option FieldType) ∈ zB := zB_t (i := 258) (by decide +kernel) (by decide +kernel)
theorem zw_259 : Cond.methodLink "java/lang/IllegalArgumentException" (7 : Nat) ({ cls := "java/lang/RuntimeException", name := "<init>", desc := "(Ljava/lang/String;)V" } : MethodName) ∈ zB := zB_t (i := 259) (by decide +kernel) (by decide +kernel)
theorem zw_260 : Cond.lays "java/lang/IllegalArgumentException" "java/lang/Throwable" "depth" "I" ∈ zB := zB_t (i := 260) (by decide +kernel) (by decide +kernel)
theorem zw_262 : Cond.methodLink "LzwBoxLaw" (62 : Nat) ({ cls := "LzwBoxLaw", name := "unpack", desc := "(LLzwBox;I[J)I" } : MethodName) ∈ zB := zB_t (i := 262) (by decide +kernel) (by decide +kernel)
theorem zw_263 : Cond.static ({ cls := "LzwBoxLaw", name := "unpack", desc := "(LLzwBox;I[J)I" } : MethodName) ∈ zB := zB_t (i := 263) (by decide +kernel) (by decide +kernel)
theorem zw_264 : Cond.codeWith ({ cls := "LzwBoxLaw", name := "unpack", desc := "(LLzwBox;I[J)I" } : MethodName) method_5_code (4 : Nat) (Option.some FieldType.int) [((0 : Nat), (9 : Nat), (12 : Nat), (19 : Nat)), ((0 : Nat), (9 : Nat), (15 : Nat), (24 : Nat)), ((0 : Nat), (9 : Nat), (18 : Nat), (13 : Nat))] ∈ zB := zB_t (i := 264) (by decide +kernel) (by decide +kernel)
theorem zw_265 : Cond.classLink "LzwBoxLaw" (24 : Nat) "java/lang/UnsupportedOperationException" ∈ zB := zB_t (i := 265) (by decide +kernel) (by decide +kernel)
theorem zw_266 : Cond.methodLink "LzwBoxLaw" (21 : Nat) ({ cls := "LzwBox", name := "unpack", desc := "(I)I" } : MethodName) ∈ zB := zB_t (i := 266) (by decide +kernel) (by decide +kernel)
theorem zw_267 : Cond.instanceMethod ({ cls := "LzwBox", name := "unpack", desc := "(I)I" } : MethodName) ∈ zB := zB_t (i := 267) (by decide +kernel) (by decide +kernel)
theorem zw_268 : Cond.selects "LzwBox" ({ cls := "LzwBox", name := "unpack", desc := "(I)I" } : MethodName) ({ cls := "LzwBox", name := "unpack", desc := "(I)I" } : MethodName) ∈ zB := zB_t (i := 268) (by decide +kernel) (by decide +kernel)
theorem zw_269 : Cond.code ({ cls := "LzwBox", name := "unpack", desc := "(I)I" } : MethodName) prog_1_method_5_code (3 : Nat) (Option.some FieldType.int) ∈ zB := zB_t (i := 269) (by decide +kernel) (by decide +kernel)
theorem zw_270 : Cond.methodLink "LzwBox" (62 : Nat) ({ cls := "LzwBox", name := "checkM", desc := "(I)V" } : MethodName) ∈ zB := zB_t (i := 270) (by decide +kernel) (by decide +kernel)
theorem zw_271 : Cond.static ({ cls := "LzwBox", name := "checkM", desc := "(I)V" } : MethodName) ∈ zB := zB_t (i := 271) (by decide +kernel) (by decide +kernel)
theorem zw_272 : Cond.code ({ cls := "LzwBox", name := "checkM", desc := "(I)V" } : MethodName) prog_1_method_10_code (1 : Nat) (Option.none : Option FieldType) ∈ zB := zB_t (i := 272) (by decide +kernel) (by decide +kernel)
theorem zw_273 : Cond.stringRef "LzwBox" (88 : Nat) "m is 2 .. 8" ∈ zB := zB_t (i := 273) (by decide +kernel) (by decide +kernel)
theorem zw_274 : Cond.methodLink "LzwBox" (65 : Nat) ({ cls := "LzwBox$Unpacker", name := "read", desc := "([BII[B)I" } : MethodName) ∈ zB := zB_t (i := 274) (by decide +kernel) (by decide +kernel)
theorem zw_275 : Cond.instanceMethod ({ cls := "LzwBox$Unpacker", name := "read", desc := "([BII[B)I" } : MethodName) ∈ zB := zB_t (i := 275) (by decide +kernel) (by decide +kernel)
theorem zw_276 : Cond.selects "LzwBox$Unpacker" ({ cls := "LzwBox$Unpacker", name := "read", desc := "([BII[B)I" } : MethodName) ({ cls := "LzwBox$Unpacker", name := "read", desc := "([BII[B)I" } : MethodName) ∈ zB := zB_t (i := 276) (by decide +kernel) (by decide +kernel)
theorem zw_277 : Cond.code ({ cls := "LzwBox$Unpacker", name := "read", desc := "([BII[B)I" } : MethodName) prog_5_method_2_code (9 : Nat) (Option.some FieldType.int) ∈ zB := zB_t (i := 277) (by decide +kernel) (by decide +kernel)
theorem zw_278 : Cond.methodLink "LzwBox$Unpacker" (39 : Nat) ({ cls := "LzwBox$Numbering", name := "startWith", desc := "(I)V" } : MethodName) ∈ zB := zB_t (i := 278) (by decide +kernel) (by decide +kernel)
theorem zw_279 : Cond.instanceMethod ({ cls := "LzwBox$Numbering", name := "startWith", desc := "(I)V" } : MethodName) ∈ zB := zB_t (i := 279) (by decide +kernel) (by decide +kernel)
theorem zw_280 : Cond.selects "LzwBox$Numbering" ({ cls := "LzwBox$Numbering", name := "startWith", desc := "(I)V" } : MethodName) ({ cls := "LzwBox$Numbering", name := "startWith", desc := "(I)V" } : MethodName) ∈ zB := zB_t (i := 280) (by decide +kernel) (by decide +kernel)
theorem zw_281 : Cond.code ({ cls := "LzwBox$Numbering", name := "startWith", desc := "(I)V" } : MethodName) prog_3_method_2_code (2 : Nat) (Option.none : Option FieldType) ∈ zB := zB_t (i := 281) (by decide +kernel) (by decide +kernel)
theorem zw_282 : Cond.methodLink "LzwBox$Numbering" (15 : Nat) ({ cls := "LzwBox$Numbering", name := "beginAnew", desc := "()V" } : MethodName) ∈ zB := zB_t (i := 282) (by decide +kernel) (by decide +kernel)
theorem zw_283 : Cond.instanceMethod ({ cls := "LzwBox$Numbering", name := "beginAnew", desc := "()V" } : MethodName) ∈ zB := zB_t (i := 283) (by decide +kernel) (by decide +kernel)
theorem zw_284 : Cond.selects "LzwBox$Numbering" ({ cls := "LzwBox$Numbering", name := "beginAnew", desc := "()V" } : MethodName) ({ cls := "LzwBox$Numbering", name := "beginAnew", desc := "()V" } : MethodName) ∈ zB := zB_t (i := 284) (by decide +kernel) (by decide +kernel)
theorem zw_285 : Cond.code ({ cls := "LzwBox$Numbering", name := "beginAnew", desc := "()V" } : MethodName) prog_3_method_3_code (1 : Nat) (Option.none : Option FieldType) ∈ zB := zB_t (i := 285) (by decide +kernel) (by decide +kernel)
theorem zw_286 : Cond.methodLink "LzwBox$Unpacker" (46 : Nat) ({ cls := "LzwBox$Unpacker", name := "codeAt", desc := "([BIII)I" } : MethodName) ∈ zB := zB_t (i := 286) (by decide +kernel) (by decide +kernel)
theorem zw_287 : Cond.static ({ cls := "LzwBox$Unpacker", name := "codeAt", desc := "([BIII)I" } : MethodName) ∈ zB := zB_t (i := 287) (by decide +kernel) (by decide +kernel)
theorem zw_288 : Cond.code ({ cls := "LzwBox$Unpacker", name := "codeAt", desc := "([BIII)I" } : MethodName) prog_5_method_3_code (7 : Nat) (Option.some FieldType.int) ∈ zB := zB_t (i := 288) (by decide +kernel) (by decide +kernel)
theorem zw_289 : Cond.methodLink "LzwBox$Unpacker" (50 : Nat) ({ cls := "LzwBox$Numbering", name := "ending", desc := "()I" } : MethodName) ∈ zB := zB_t (i := 289) (by decide +kernel) (by decide +kernel)
theorem zw_290 : Cond.instanceMethod ({ cls := "LzwBox$Numbering", name := "ending", desc := "()I" } : MethodName) ∈ zB := zB_t (i := 290) (by decide +kernel) (by decide +kernel)
theorem zw_291 : Cond.selects "LzwBox$Numbering" ({ cls := "LzwBox$Numbering", name := "ending", desc := "()I" } : MethodName) ({ cls := "LzwBox$Numbering", name := "ending", desc := "()I" } : MethodName) ∈ zB := zB_t (i := 291) (by decide +kernel) (by decide +kernel)
theorem zw_292 : Cond.code ({ cls := "LzwBox$Numbering", name := "ending", desc := "()I" } : MethodName) prog_3_method_5_code (1 : Nat) (Option.some FieldType.int) ∈ zB := zB_t (i := 292) (by decide +kernel) (by decide +kernel)
theorem zw_293 : Cond.methodLink "LzwBox$Unpacker" (54 : Nat) ({ cls := "LzwBox$Numbering", name := "beginning", desc := "()I" } : MethodName) ∈ zB := zB_t (i := 293) (by decide +kernel) (by decide +kernel)
theorem zw_294 : Cond.instanceMethod ({ cls := "LzwBox$Numbering", name := "beginning", desc := "()I" } : MethodName) ∈ zB := zB_t (i := 294) (by decide +kernel) (by decide +kernel)
theorem zw_295 : Cond.selects "LzwBox$Numbering" ({ cls := "LzwBox$Numbering", name := "beginning", desc := "()I" } : MethodName) ({ cls := "LzwBox$Numbering", name := "beginning", desc := "()I" } : MethodName) ∈ zB := zB_t (i := 295) (by decide +kernel) (by decide +kernel)
theorem zw_296 : Cond.code ({ cls := "LzwBox$Numbering", name := "beginning", desc := "()I" } : MethodName) prog_3_method_4_code (1 : Nat) (Option.some FieldType.int) ∈ zB := zB_t (i := 296) (by decide +kernel) (by decide +kernel)
theorem zw_297 : Cond.methodLink "LzwBox$Unpacker" (57 : Nat) ({ cls := "LzwBox$Numbering", name := "beginAnew", desc := "()V" } : MethodName) ∈ zB := zB_t (i := 297) (by decide +kernel) (by decide +kernel)
theorem zw_298 : Cond.methodLink "LzwBox$Unpacker" (60 : Nat) ({ cls := "LzwBox$Unpacker", name := "takeCode", desc := "(I)V" } : MethodName) ∈ zB := zB_t (i := 298) (by decide +kernel) (by decide +kernel)
theorem zw_300 : Cond.instanceMethod ({ cls := "LzwBox$Unpacker", name := "takeCode", desc := "(I)V" } : MethodName) ∈ zB := zB_t (i := 300) (by decide +kernel) (by decide +kernel)
theorem zw_301 : Cond.code ({ cls := "LzwBox$Unpacker", name := "takeCode", desc := "(I)V" } : MethodName) prog_5_method_4_code (5 : Nat) (Option.none : Option FieldType) ∈ zB := zB_t (i := 301) (by decide +kernel) (by decide +kernel)
theorem zw_302 : Cond.methodLink "LzwBox$Unpacker" (73 : Nat) ({ cls := "LzwBox$Numbering", name := "nextCodeMakesRow", desc := "()Z" } : MethodName) ∈ zB := zB_t (i := 302) (by decide +kernel) (by decide +kernel)
theorem zw_303 : Cond.instanceMethod ({ cls := "LzwBox$Numbering", name := "nextCodeMakesRow", desc := "()Z" } : MethodName) ∈ zB := zB_t (i := 303) (by decide +kernel) (by decide +kernel)
theorem zw_304 : Cond.selects "LzwBox$Numbering" ({ cls := "LzwBox$Numbering", name := "nextCodeMakesRow", desc := "()Z" } : MethodName) ({ cls := "LzwBox$Numbering", name := "nextCodeMakesRow", desc := "()Z" } : MethodName) ∈ zB := zB_t (i := 304) (by decide +kernel) (by decide +kernel)
theorem zw_305 : Cond.code ({ cls := "LzwBox$Numbering", name := "nextCodeMakesRow", desc := "()Z" } : MethodName) prog_3_method_8_code (1 : Nat) (Option.some FieldType.boolean) ∈ zB := zB_t (i := 305) (by decide +kernel) (by decide +kernel)
theorem zw_306 : Cond.methodLink "LzwBox$Numbering" (28 : Nat) ({ cls := "LzwBox$Numbering", name := "isFull", desc := "()Z" } : MethodName) ∈ zB := zB_t (i := 306) (by decide +kernel) (by decide +kernel)
theorem zw_307 : Cond.instanceMethod ({ cls := "LzwBox$Numbering", name := "isFull", desc := "()Z" } : MethodName) ∈ zB := zB_t (i := 307) (by decide +kernel) (by decide +kernel)
theorem zw_308 : Cond.selects "LzwBox$Numbering" ({ cls := "LzwBox$Numbering", name := "isFull", desc := "()Z" } : MethodName) ({ cls := "LzwBox$Numbering", name := "isFull", desc := "()Z" } : MethodName) ∈ zB := zB_t (i := 308) (by decide +kernel) (by decide +kernel)
theorem zw_309 : Cond.code ({ cls := "LzwBox$Numbering", name := "isFull", desc := "()Z" } : MethodName) prog_3_method_7_code (1 : Nat) (Option.some FieldType.boolean) ∈ zB := zB_t (i := 309) (by decide +kernel) (by decide +kernel)
theorem zw_310 : Cond.classLink "LzwBox$Unpacker" (63 : Nat) "java/lang/UnsupportedOperationException" ∈ zB := zB_t (i := 310) (by decide +kernel) (by decide +kernel)
theorem zw_311 : Cond.instantiable "java/lang/UnsupportedOperationException" (6 : Nat) ∈ zB := zB_t (i := 311) (by decide +kernel) (by decide +kernel)
theorem zw_312 : Cond.castable "java/lang/UnsupportedOperationException" "java/lang/UnsupportedOperationException" ∈ zB := zB_t (i := 312) (by decide +kernel) (by decide +kernel)
theorem zw_313 : Cond.selects "java/lang/UnsupportedOperationException" ({ cls := "java/lang/Throwable", name := "fillInStackTrace", desc := "(I)Ljava/lang/Throwable;" } : MethodName) ({ cls := "java/lang/Throwable", name := "fillInStackTrace", desc := "(I)Ljava/lang/Throwable;" } : MethodName) ∈ zB := zB_t (i := 313) (by decide +kernel) (by decide +kernel)
theorem zw_314 : Cond.lays "java/lang/UnsupportedOperationException" "java/lang/Throwable" "cause" "Ljava/lang/Throwable;" ∈ zB := zB_t (i := 314) (by decide +kernel) (by decide +kernel)
theorem zw_315 : Cond.lays "java/lang/UnsupportedOperationException" "java/lang/Throwable" "stackTrace" "[Ljava/lang/StackTraceElement;" ∈ zB := zB_t (i := 315) (by decide +kernel) (by decide +kernel)
theorem zw_316 : Cond.lays "java/lang/UnsupportedOperationException" "java/lang/Throwable" "suppressedExceptions" "Ljava/util/List;" ∈ zB := zB_t (i := 316) (by decide +kernel) (by decide +kernel)
theorem zw_317 : Cond.lays "java/lang/UnsupportedOperationException" "java/lang/Throwable" "detailMessage" "Ljava/lang/String;" ∈ zB := zB_t (i := 317) (by decide +kernel) (by decide +kernel)
theorem zw_318 : Cond.lays "java/lang/UnsupportedOperationException" "java/lang/Throwable" "backtrace" "Ljava/lang/Object;" ∈ zB := zB_t (i := 318) (by decide +kernel) (by decide +kernel)
theorem zw_319 : Cond.stringRef "LzwBox$Unpacker" (77 : Nat) "the code is no row yet" ∈ zB := zB_t (i := 319) (by decide +kernel) (by decide +kernel)
theorem zw_320 : Cond.methodLink "LzwBox$Unpacker" (67 : Nat) ({ cls := "java/lang/UnsupportedOperationException", name := "<init>", desc := "(Ljava/lang/String;)V" } : MethodName) ∈ zB := zB_t (i := 320) (by decide +kernel) (by decide +kernel)
theorem zw_321 : Cond.instanceMethod ({ cls := "java/lang/UnsupportedOperationException", name := "<init>", desc := "(Ljava/lang/String;)V" } : MethodName) ∈ zB := zB_t (i := 321) (by decide +kernel) (by decide +kernel)
theorem zw_322 : Cond.code ({ cls := "java/lang/UnsupportedOperationException", name := "<init>", desc := "(Ljava/lang/String;)V" } : MethodName) prog_23_method_2_code (2 : Nat) (Option.none : Option FieldType) ∈ zB := zB_t (i := 322) (by decide +kernel) (by decide +kernel)
theorem zw_323 : Cond.methodLink "java/lang/UnsupportedOperationException" (7 : Nat) ({ cls := "java/lang/RuntimeException", name := "<init>", desc := "(Ljava/lang/String;)V" } : MethodName) ∈ zB := zB_t (i := 323) (by decide +kernel) (by decide +kernel)
theorem zw_324 : Cond.lays "java/lang/UnsupportedOperationException" "java/lang/Throwable" "depth" "I" ∈ zB := zB_t (i := 324) (by decide +kernel) (by decide +kernel)
theorem zw_326 : Cond.methodLink "LzwBox$Unpacker" (79 : Nat) ({ cls := "LzwBox$Numbering", name := "isIndex", desc := "(I)Z" } : MethodName) ∈ zB := zB_t (i := 326) (by decide +kernel) (by decide +kernel)
theorem zw_327 : Cond.instanceMethod ({ cls := "LzwBox$Numbering", name := "isIndex", desc := "(I)Z" } : MethodName) ∈ zB := zB_t (i := 327) (by decide +kernel) (by decide +kernel)
theorem zw_328 : Cond.selects "LzwBox$Numbering" ({ cls := "LzwBox$Numbering", name := "isIndex", desc := "(I)Z" } : MethodName) ({ cls := "LzwBox$Numbering", name := "isIndex", desc := "(I)Z" } : MethodName) ∈ zB := zB_t (i := 328) (by decide +kernel) (by decide +kernel)
theorem zw_329 : Cond.code ({ cls := "LzwBox$Numbering", name := "isIndex", desc := "(I)Z" } : MethodName) prog_3_method_6_code (2 : Nat) (Option.some FieldType.boolean) ∈ zB := zB_t (i := 329) (by decide +kernel) (by decide +kernel)
theorem zw_330 : Cond.classLink "LzwBox$Unpacker" (83 : Nat) "java/lang/IndexOutOfBoundsException" ∈ zB := zB_t (i := 330) (by decide +kernel) (by decide +kernel)
theorem zw_331 : Cond.stringRef "LzwBox$Unpacker" (85 : Nat) "too many indices" ∈ zB := zB_t (i := 331) (by decide +kernel) (by decide +kernel)
theorem zw_332 : Cond.methodLink "LzwBox$Unpacker" (87 : Nat) ({ cls := "java/lang/IndexOutOfBoundsException", name := "<init>", desc := "(Ljava/lang/String;)V" } : MethodName) ∈ zB := zB_t (i := 332) (by decide +kernel) (by decide +kernel)
theorem zw_333 : Cond.methodLink "LzwBox$Unpacker" (88 : Nat) ({ cls := "LzwBox$Unpacker", name := "repeat", desc := "(II)V" } : MethodName) ∈ zB := zB_t (i := 333) (by decide +kernel) (by decide +kernel)
theorem zw_335 : Cond.instanceMethod ({ cls := "LzwBox$Unpacker", name := "repeat", desc := "(II)V" } : MethodName) ∈ zB := zB_t (i := 335) (by decide +kernel) (by decide +kernel)
theorem zw_336 : Cond.code ({ cls := "LzwBox$Unpacker", name := "repeat", desc := "(II)V" } : MethodName) prog_5_method_5_code (4 : Nat) (Option.none : Option FieldType) ∈ zB := zB_t (i := 336) (by decide +kernel) (by decide +kernel)
theorem zw_337 : Cond.methodLink "LzwBox$Unpacker" (92 : Nat) ({ cls := "LzwBox$Numbering", name := "passCode", desc := "()V" } : MethodName) ∈ zB := zB_t (i := 337) (by decide +kernel) (by decide +kernel)
theorem zw_338 : Cond.instanceMethod ({ cls := "LzwBox$Numbering", name := "passCode", desc := "()V" } : MethodName) ∈ zB := zB_t (i := 338) (by decide +kernel) (by decide +kernel)
theorem zw_339 : Cond.selects "LzwBox$Numbering" ({ cls := "LzwBox$Numbering", name := "passCode", desc := "()V" } : MethodName) ({ cls := "LzwBox$Numbering", name := "passCode", desc := "()V" } : MethodName) ∈ zB := zB_t (i := 339) (by decide +kernel) (by decide +kernel)
theorem zw_340 : Cond.code ({ cls := "LzwBox$Numbering", name := "passCode", desc := "()V" } : MethodName) prog_3_method_9_code (1 : Nat) (Option.none : Option FieldType) ∈ zB := zB_t (i := 340) (by decide +kernel) (by decide +kernel)
theorem zw_341 : Cond.methodLink "LzwBox$Numbering" (32 : Nat) ({ cls := "LzwBox$Numbering", name := "nextCodeMakesRow", desc := "()Z" } : MethodName) ∈ zB := zB_t (i := 341) (by decide +kernel) (by decide +kernel)
theorem zw_342 : Cond.stringRef "LzwBox$Unpacker" (65 : Nat) "the codes have no end" ∈ zB := zB_t (i := 342) (by decide +kernel) (by decide +kernel)
theorem zw_343 : Cond.methodLink "LzwBox" (69 : Nat) ({ cls := "LzwBox", name := "takeSpareAsResult", desc := "(I)V" } : MethodName) ∈ zB := zB_t (i := 343) (by decide +kernel) (by decide +kernel)
theorem zw_345 : Cond.instanceMethod ({ cls := "LzwBox", name := "takeSpareAsResult", desc := "(I)V" } : MethodName) ∈ zB := zB_t (i := 345) (by decide +kernel) (by decide +kernel)
theorem zw_346 : Cond.code ({ cls := "LzwBox", name := "takeSpareAsResult", desc := "(I)V" } : MethodName) prog_1_method_13_code (3 : Nat) (Option.none : Option FieldType) ∈ zB := zB_t (i := 346) (by decide +kernel) (by decide +kernel)
theorem zw_347 : Cond.methodLink "LzwBoxLaw" (65 : Nat) ({ cls := "LzwBoxLaw", name := "pack", desc := "(LLzwBox;I[J)I" } : MethodName) ∈ zB := zB_t (i := 347) (by decide +kernel) (by decide +kernel)
theorem zw_348 : Cond.static ({ cls := "LzwBoxLaw", name := "pack", desc := "(LLzwBox;I[J)I" } : MethodName) ∈ zB := zB_t (i := 348) (by decide +kernel) (by decide +kernel)
theorem zw_349 : Cond.codeWith ({ cls := "LzwBoxLaw", name := "pack", desc := "(LLzwBox;I[J)I" } : MethodName) method_6_code (4 : Nat) (Option.some FieldType.int) [((0 : Nat), (9 : Nat), (12 : Nat), (19 : Nat)), ((0 : Nat), (9 : Nat), (15 : Nat), (24 : Nat)), ((0 : Nat), (9 : Nat), (18 : Nat), (13 : Nat))] ∈ zB := zB_t (i := 349) (by decide +kernel) (by decide +kernel)
theorem zw_350 : Cond.methodLink "LzwBoxLaw" (26 : Nat) ({ cls := "LzwBox", name := "pack", desc := "(I)I" } : MethodName) ∈ zB := zB_t (i := 350) (by decide +kernel) (by decide +kernel)
theorem zw_351 : Cond.instanceMethod ({ cls := "LzwBox", name := "pack", desc := "(I)I" } : MethodName) ∈ zB := zB_t (i := 351) (by decide +kernel) (by decide +kernel)
theorem zw_352 : Cond.selects "LzwBox" ({ cls := "LzwBox", name := "pack", desc := "(I)I" } : MethodName) ({ cls := "LzwBox", name := "pack", desc := "(I)I" } : MethodName) ∈ zB := zB_t (i := 352) (by decide +kernel) (by decide +kernel)
theorem zw_353 : Cond.code ({ cls := "LzwBox", name := "pack", desc := "(I)I" } : MethodName) prog_1_method_6_code (2 : Nat) (Option.some FieldType.int) ∈ zB := zB_t (i := 353) (by decide +kernel) (by decide +kernel)
theorem zw_354 : Cond.methodLink "LzwBox" (72 : Nat) ({ cls := "LzwBox", name := "tapeIsIndices", desc := "(I)Z" } : MethodName) ∈ zB := zB_t (i := 354) (by decide +kernel) (by decide +kernel)
theorem zw_356 : Cond.instanceMethod ({ cls := "LzwBox", name := "tapeIsIndices", desc := "(I)Z" } : MethodName) ∈ zB := zB_t (i := 356) (by decide +kernel) (by decide +kernel)
theorem zw_357 : Cond.code ({ cls := "LzwBox", name := "tapeIsIndices", desc := "(I)Z" } : MethodName) prog_1_method_12_code (3 : Nat) (Option.some FieldType.boolean) ∈ zB := zB_t (i := 357) (by decide +kernel) (by decide +kernel)
theorem zw_358 : Cond.classLink "LzwBox" (76 : Nat) "java/lang/UnsupportedOperationException" ∈ zB := zB_t (i := 358) (by decide +kernel) (by decide +kernel)
theorem zw_359 : Cond.stringRef "LzwBox" (78 : Nat) "the tape is not a row of indices" ∈ zB := zB_t (i := 359) (by decide +kernel) (by decide +kernel)
theorem zw_360 : Cond.methodLink "LzwBox" (80 : Nat) ({ cls := "java/lang/UnsupportedOperationException", name := "<init>", desc := "(Ljava/lang/String;)V" } : MethodName) ∈ zB := zB_t (i := 360) (by decide +kernel) (by decide +kernel)
theorem zw_361 : Cond.methodLink "LzwBox" (81 : Nat) ({ cls := "LzwBox$Packer", name := "write", desc := "([BII[B)I" } : MethodName) ∈ zB := zB_t (i := 361) (by decide +kernel) (by decide +kernel)
theorem zw_362 : Cond.instanceMethod ({ cls := "LzwBox$Packer", name := "write", desc := "([BII[B)I" } : MethodName) ∈ zB := zB_t (i := 362) (by decide +kernel) (by decide +kernel)
theorem zw_363 : Cond.selects "LzwBox$Packer" ({ cls := "LzwBox$Packer", name := "write", desc := "([BII[B)I" } : MethodName) ({ cls := "LzwBox$Packer", name := "write", desc := "([BII[B)I" } : MethodName) ∈ zB := zB_t (i := 363) (by decide +kernel) (by decide +kernel)
theorem zw_364 : Cond.code ({ cls := "LzwBox$Packer", name := "write", desc := "([BII[B)I" } : MethodName) prog_4_method_2_code (9 : Nat) (Option.some FieldType.int) ∈ zB := zB_t (i := 364) (by decide +kernel) (by decide +kernel)
theorem zw_365 : Cond.methodLink "LzwBox$Packer" (35 : Nat) ({ cls := "LzwBox$Numbering", name := "startWith", desc := "(I)V" } : MethodName) ∈ zB := zB_t (i := 365) (by decide +kernel) (by decide +kernel)
theorem zw_366 : Cond.methodLink "LzwBox$Packer" (39 : Nat) ({ cls := "LzwBox$BitSink", name := "startOn", desc := "([B)V" } : MethodName) ∈ zB := zB_t (i := 366) (by decide +kernel) (by decide +kernel)
theorem zw_367 : Cond.instanceMethod ({ cls := "LzwBox$BitSink", name := "startOn", desc := "([B)V" } : MethodName) ∈ zB := zB_t (i := 367) (by decide +kernel) (by decide +kernel)
theorem zw_368 : Cond.selects "LzwBox$BitSink" ({ cls := "LzwBox$BitSink", name := "startOn", desc := "([B)V" } : MethodName) ({ cls := "LzwBox$BitSink", name := "startOn", desc := "([B)V" } : MethodName) ∈ zB := zB_t (i := 368) (by decide +kernel) (by decide +kernel)
theorem zw_369 : Cond.code ({ cls := "LzwBox$BitSink", name := "startOn", desc := "([B)V" } : MethodName) prog_2_method_2_code (2 : Nat) (Option.none : Option FieldType) ∈ zB := zB_t (i := 369) (by decide +kernel) (by decide +kernel)
theorem zw_370 : Cond.methodLink "LzwBox$Packer" (43 : Nat) ({ cls := "LzwBox$Packer", name := "writeBeginning", desc := "()V" } : MethodName) ∈ zB := zB_t (i := 370) (by decide +kernel) (by decide +kernel)
theorem zw_372 : Cond.instanceMethod ({ cls := "LzwBox$Packer", name := "writeBeginning", desc := "()V" } : MethodName) ∈ zB := zB_t (i := 372) (by decide +kernel) (by decide +kernel)
theorem zw_373 : Cond.code ({ cls := "LzwBox$Packer", name := "writeBeginning", desc := "()V" } : MethodName) prog_4_method_3_code (1 : Nat) (Option.none : Option FieldType) ∈ zB := zB_t (i := 373) (by decide +kernel) (by decide +kernel)
theorem zw_374 : Cond.methodLink "LzwBox$Packer" (71 : Nat) ({ cls := "LzwBox$Numbering", name := "beginning", desc := "()I" } : MethodName) ∈ zB := zB_t (i := 374) (by decide +kernel) (by decide +kernel)
theorem zw_375 : Cond.methodLink "LzwBox$Packer" (65 : Nat) ({ cls := "LzwBox$BitSink", name := "put", desc := "(II)V" } : MethodName) ∈ zB := zB_t (i := 375) (by decide +kernel) (by decide +kernel)
theorem zw_376 : Cond.instanceMethod ({ cls := "LzwBox$BitSink", name := "put", desc := "(II)V" } : MethodName) ∈ zB := zB_t (i := 376) (by decide +kernel) (by decide +kernel)
theorem zw_377 : Cond.selects "LzwBox$BitSink" ({ cls := "LzwBox$BitSink", name := "put", desc := "(II)V" } : MethodName) ({ cls := "LzwBox$BitSink", name := "put", desc := "(II)V" } : MethodName) ∈ zB := zB_t (i := 377) (by decide +kernel) (by decide +kernel)
theorem zw_378 : Cond.code ({ cls := "LzwBox$BitSink", name := "put", desc := "(II)V" } : MethodName) prog_2_method_3_code (3 : Nat) (Option.none : Option FieldType) ∈ zB := zB_t (i := 378) (by decide +kernel) (by decide +kernel)
theorem zw_379 : Cond.methodLink "LzwBox$BitSink" (25 : Nat) ({ cls := "LzwBox$BitSink", name := "putByte", desc := "()V" } : MethodName) ∈ zB := zB_t (i := 379) (by decide +kernel) (by decide +kernel)
theorem zw_381 : Cond.instanceMethod ({ cls := "LzwBox$BitSink", name := "putByte", desc := "()V" } : MethodName) ∈ zB := zB_t (i := 381) (by decide +kernel) (by decide +kernel)
theorem zw_382 : Cond.code ({ cls := "LzwBox$BitSink", name := "putByte", desc := "()V" } : MethodName) prog_2_method_5_code (1 : Nat) (Option.none : Option FieldType) ∈ zB := zB_t (i := 382) (by decide +kernel) (by decide +kernel)
theorem zw_383 : Cond.classLink "LzwBox$BitSink" (28 : Nat) "java/lang/IndexOutOfBoundsException" ∈ zB := zB_t (i := 383) (by decide +kernel) (by decide +kernel)
theorem zw_384 : Cond.stringRef "LzwBox$BitSink" (30 : Nat) "too many bytes" ∈ zB := zB_t (i := 384) (by decide +kernel) (by decide +kernel)
theorem zw_385 : Cond.methodLink "LzwBox$BitSink" (32 : Nat) ({ cls := "java/lang/IndexOutOfBoundsException", name := "<init>", desc := "(Ljava/lang/String;)V" } : MethodName) ∈ zB := zB_t (i := 385) (by decide +kernel) (by decide +kernel)
theorem zw_386 : Cond.methodLink "LzwBox$Packer" (74 : Nat) ({ cls := "LzwBox$Numbering", name := "beginAnew", desc := "()V" } : MethodName) ∈ zB := zB_t (i := 386) (by decide +kernel) (by decide +kernel)
theorem zw_387 : Cond.methodLink "LzwBox$Packer" (77 : Nat) ({ cls := "java/util/Arrays", name := "fill", desc := "([IIII)V" } : MethodName) ∈ zB := zB_t (i := 387) (by decide +kernel) (by decide +kernel)
theorem zw_388 : Cond.static ({ cls := "java/util/Arrays", name := "fill", desc := "([IIII)V" } : MethodName) ∈ zB := zB_t (i := 388) (by decide +kernel) (by decide +kernel)
theorem zw_389 : Cond.code ({ cls := "java/util/Arrays", name := "fill", desc := "([IIII)V" } : MethodName) prog_24_method_104_code (5 : Nat) (Option.none : Option FieldType) ∈ zB := zB_t (i := 389) (by decide +kernel) (by decide +kernel)
theorem zw_390 : Cond.methodLink "java/util/Arrays" (13 : Nat) ({ cls := "java/util/Arrays", name := "rangeCheck", desc := "(III)V" } : MethodName) ∈ zB := zB_t (i := 390) (by decide +kernel) (by decide +kernel)
theorem zw_391 : Cond.static ({ cls := "java/util/Arrays", name := "rangeCheck", desc := "(III)V" } : MethodName) ∈ zB := zB_t (i := 391) (by decide +kernel) (by decide +kernel)
theorem zw_392 : Cond.code ({ cls := "java/util/Arrays", name := "rangeCheck", desc := "(III)V" } : MethodName) prog_24_method_30_code (3 : Nat) (Option.none : Option FieldType) ∈ zB := zB_t (i := 392) (by decide +kernel) (by decide +kernel)
theorem zw_393 : Cond.classLink "java/util/Arrays" (43 : Nat) "java/lang/IllegalArgumentException" ∈ zB := zB_t (i := 393) (by decide +kernel) (by decide +kernel)
theorem zw_394 : Cond.classLink "java/util/Arrays" (45 : Nat) "java/lang/StringBuilder" ∈ zB := zB_t (i := 394) (by decide +kernel) (by decide +kernel)
theorem zw_396 : Cond.methodLink "java/util/Arrays" (47 : Nat) ({ cls := "java/lang/StringBuilder", name := "<init>", desc := "()V" } : MethodName) ∈ zB := zB_t (i := 396) (by decide +kernel) (by decide +kernel)
theorem zw_402 : Cond.methodLink "java/lang/AbstractStringBuilder" (3 : Nat) ({ cls := "java/lang/Object", name := "<init>", desc := "()V" } : MethodName) ∈ zB := zB_t (i := 402) (by decide +kernel) (by decide +kernel)
theorem zw_425 : Cond.stringRef "java/util/Arrays" (48 : Nat) "fromIndex(" ∈ zB := zB_t (i := 425) (by decide +kernel) (by decide +kernel)
theorem zw_426 : Cond.methodLink "java/util/Arrays" (50 : Nat) ({ cls := "java/lang/StringBuilder", name := "append", desc := "(Ljava/lang/String;)Ljava/lang/StringBuilder;" } : MethodName) ∈ zB := zB_t (i := 426) (by decide +kernel) (by decide +kernel)
theorem zw_456 : Cond.methodLink "java/lang/AbstractStringBuilder" (108 : Nat) ({ cls := "java/util/Arrays", name := "copyOf", desc := "([BI)[B" } : MethodName) ∈ zB := zB_t (i := 456) (by decide +kernel) (by decide +kernel)
theorem zw_457 : Cond.static ({ cls := "java/util/Arrays", name := "copyOf", desc := "([BI)[B" } : MethodName) ∈ zB := zB_t (i := 457) (by decide +kernel) (by decide +kernel)
theorem zw_458 : Cond.code ({ cls := "java/util/Arrays", name := "copyOf", desc := "([BI)[B" } : MethodName) prog_24_method_121_code (3 : Nat) (Option.some (FieldType.array FieldType.byte)) ∈ zB := zB_t (i := 458) (by decide +kernel) (by decide +kernel)
theorem zw_459 : Cond.methodLink "java/util/Arrays" (310 : Nat) ({ cls := "[B", name := "clone", desc := "()Ljava/lang/Object;" } : MethodName) ∈ zB := zB_t (i := 459) (by decide +kernel) (by decide +kernel)
theorem zw_462 : Cond.instanceMethod ({ cls := "java/lang/Object", name := "clone", desc := "()Ljava/lang/Object;" } : MethodName) ∈ zB := zB_t (i := 462) (by decide +kernel) (by decide +kernel)
theorem zw_463 : Cond.selects "[B" ({ cls := "[B", name := "clone", desc := "()Ljava/lang/Object;" } : MethodName) ({ cls := "java/lang/Object", name := "clone", desc := "()Ljava/lang/Object;" } : MethodName) ∈ zB := zB_t (i := 463) (by decide +kernel) (by decide +kernel)
theorem zw_465 : Cond.classLink "java/util/Arrays" (311 : Nat) "[B" ∈ zB := zB_t (i := 465) (by decide +kernel) (by decide +kernel)
theorem zw_466 : Cond.methodLink "java/util/Arrays" (304 : Nat) ({ cls := "java/lang/Math", name := "min", desc := "(II)I" } : MethodName) ∈ zB := zB_t (i := 466) (by decide +kernel) (by decide +kernel)
theorem zw_469 : Cond.methodLink "java/util/Arrays" (150 : Nat) ({ cls := "java/lang/System", name := "arraycopy", desc := "(Ljava/lang/Object;ILjava/lang/Object;II)V" } : MethodName) ∈ zB := zB_t (i := 469) (by decide +kernel) (by decide +kernel)
theorem zw_542 : Cond.methodLink "java/lang/String" (212 : Nat) ({ cls := "java/lang/System", name := "arraycopy", desc := "(Ljava/lang/Object;ILjava/lang/Object;II)V" } : MethodName) ∈ zB := zB_t (i := 542) (by decide +kernel) (by decide +kernel)
theorem zw_544 : Cond.methodLink "java/util/Arrays" (54 : Nat) ({ cls := "java/lang/StringBuilder", name := "append", desc := "(I)Ljava/lang/StringBuilder;" } : MethodName) ∈ zB := zB_t (i := 544) (by decide +kernel) (by decide +kernel)
theorem zw_569 : Cond.stringRef "java/util/Arrays" (57 : Nat) ") > toIndex(" ∈ zB := zB_t (i := 569) (by decide +kernel) (by decide +kernel)
theorem zw_570 : Cond.stringRef "java/util/Arrays" (59 : Nat) ")" ∈ zB := zB_t (i := 570) (by decide +kernel) (by decide +kernel)
theorem zw_571 : Cond.methodLink "java/util/Arrays" (61 : Nat) ({ cls := "java/lang/StringBuilder", name := "toString", desc := "()Ljava/lang/String;" } : MethodName) ∈ zB := zB_t (i := 571) (by decide +kernel) (by decide +kernel)
theorem zw_583 : Cond.methodLink "java/lang/String" (1 : Nat) ({ cls := "java/lang/Object", name := "<init>", desc := "()V" } : MethodName) ∈ zB := zB_t (i := 583) (by decide +kernel) (by decide +kernel)
theorem zw_598 : Cond.methodLink "java/lang/String" (54 : Nat) ({ cls := "java/util/Arrays", name := "copyOfRange", desc := "([BII)[B" } : MethodName) ∈ zB := zB_t (i := 598) (by decide +kernel) (by decide +kernel)
theorem zw_599 : Cond.static ({ cls := "java/util/Arrays", name := "copyOfRange", desc := "([BII)[B" } : MethodName) ∈ zB := zB_t (i := 599) (by decide +kernel) (by decide +kernel)
theorem zw_600 : Cond.code ({ cls := "java/util/Arrays", name := "copyOfRange", desc := "([BII)[B" } : MethodName) prog_24_method_132_code (3 : Nat) (Option.some (FieldType.array FieldType.byte)) ∈ zB := zB_t (i := 600) (by decide +kernel) (by decide +kernel)
theorem zw_601 : Cond.methodLink "java/util/Arrays" (339 : Nat) ({ cls := "java/util/Arrays", name := "copyOfRangeByte", desc := "([BII)[B" } : MethodName) ∈ zB := zB_t (i := 601) (by decide +kernel) (by decide +kernel)
theorem zw_602 : Cond.static ({ cls := "java/util/Arrays", name := "copyOfRangeByte", desc := "([BII)[B" } : MethodName) ∈ zB := zB_t (i := 602) (by decide +kernel) (by decide +kernel)
theorem zw_603 : Cond.code ({ cls := "java/util/Arrays", name := "copyOfRangeByte", desc := "([BII)[B" } : MethodName) prog_24_method_133_code (5 : Nat) (Option.some (FieldType.array FieldType.byte)) ∈ zB := zB_t (i := 603) (by decide +kernel) (by decide +kernel)
theorem zw_604 : Cond.methodLink "java/util/Arrays" (343 : Nat) ({ cls := "java/util/Arrays", name := "checkLength", desc := "(II)V" } : MethodName) ∈ zB := zB_t (i := 604) (by decide +kernel) (by decide +kernel)
theorem zw_605 : Cond.static ({ cls := "java/util/Arrays", name := "checkLength", desc := "(II)V" } : MethodName) ∈ zB := zB_t (i := 605) (by decide +kernel) (by decide +kernel)
theorem zw_606 : Cond.code ({ cls := "java/util/Arrays", name := "checkLength", desc := "(II)V" } : MethodName) prog_24_method_131_code (2 : Nat) (Option.none : Option FieldType) ∈ zB := zB_t (i := 606) (by decide +kernel) (by decide +kernel)
theorem zw_607 : Cond.stringRef "java/util/Arrays" (337 : Nat) " > " ∈ zB := zB_t (i := 607) (by decide +kernel) (by decide +kernel)
theorem zw_608 : Cond.methodLink "java/util/Arrays" (65 : Nat) ({ cls := "java/lang/IllegalArgumentException", name := "<init>", desc := "(Ljava/lang/String;)V" } : MethodName) ∈ zB := zB_t (i := 608) (by decide +kernel) (by decide +kernel)
theorem zw_618 : Cond.methodLink "java/lang/StringUTF16" (126 : Nat) ({ cls := "java/util/Arrays", name := "copyOfRange", desc := "([BII)[B" } : MethodName) ∈ zB := zB_t (i := 618) (by decide +kernel) (by decide +kernel)
theorem zw_633 : Cond.classLink "java/util/Arrays" (68 : Nat) "java/lang/ArrayIndexOutOfBoundsException" ∈ zB := zB_t (i := 633) (by decide +kernel) (by decide +kernel)
theorem zw_634 : Cond.instantiable "java/lang/ArrayIndexOutOfBoundsException" (6 : Nat) ∈ zB := zB_t (i := 634) (by decide +kernel) (by decide +kernel)
theorem zw_635 : Cond.methodLink "java/util/Arrays" (70 : Nat) ({ cls := "java/lang/ArrayIndexOutOfBoundsException", name := "<init>", desc := "(I)V" } : MethodName) ∈ zB := zB_t (i := 635) (by decide +kernel) (by decide +kernel)
theorem zw_636 : Cond.instanceMethod ({ cls := "java/lang/ArrayIndexOutOfBoundsException", name := "<init>", desc := "(I)V" } : MethodName) ∈ zB := zB_t (i := 636) (by decide +kernel) (by decide +kernel)
theorem zw_637 : Cond.code ({ cls := "java/lang/ArrayIndexOutOfBoundsException", name := "<init>", desc := "(I)V" } : MethodName) prog_9_method_3_code (2 : Nat) (Option.none : Option FieldType) ∈ zB := zB_t (i := 637) (by decide +kernel) (by decide +kernel)
theorem zw_638 : Cond.classLink "java/lang/ArrayIndexOutOfBoundsException" (10 : Nat) "java/lang/StringBuilder" ∈ zB := zB_t (i := 638) (by decide +kernel) (by decide +kernel)
theorem zw_639 : Cond.methodLink "java/lang/ArrayIndexOutOfBoundsException" (12 : Nat) ({ cls := "java/lang/StringBuilder", name := "<init>", desc := "()V" } : MethodName) ∈ zB := zB_t (i := 639) (by decide +kernel) (by decide +kernel)
theorem zw_640 : Cond.stringRef "java/lang/ArrayIndexOutOfBoundsException" (13 : Nat) "Array index out of range: " ∈ zB := zB_t (i := 640) (by decide +kernel) (by decide +kernel)
theorem zw_641 : Cond.methodLink "java/lang/ArrayIndexOutOfBoundsException" (15 : Nat) ({ cls := "java/lang/StringBuilder", name := "append", desc := "(Ljava/lang/String;)Ljava/lang/StringBuilder;" } : MethodName) ∈ zB := zB_t (i := 641) (by decide +kernel) (by decide +kernel)
theorem zw_642 : Cond.methodLink "java/lang/ArrayIndexOutOfBoundsException" (19 : Nat) ({ cls := "java/lang/StringBuilder", name := "append", desc := "(I)Ljava/lang/StringBuilder;" } : MethodName) ∈ zB := zB_t (i := 642) (by decide +kernel) (by decide +kernel)
theorem zw_643 : Cond.methodLink "java/lang/ArrayIndexOutOfBoundsException" (22 : Nat) ({ cls := "java/lang/StringBuilder", name := "toString", desc := "()Ljava/lang/String;" } : MethodName) ∈ zB := zB_t (i := 643) (by decide +kernel) (by decide +kernel)
theorem zw_644 : Cond.methodLink "java/lang/ArrayIndexOutOfBoundsException" (7 : Nat) ({ cls := "java/lang/IndexOutOfBoundsException", name := "<init>", desc := "(Ljava/lang/String;)V" } : MethodName) ∈ zB := zB_t (i := 644) (by decide +kernel) (by decide +kernel)
theorem zw_645 : Cond.lays "java/lang/ArrayIndexOutOfBoundsException" "java/lang/Throwable" "backtrace" "Ljava/lang/Object;" ∈ zB := zB_t (i := 645) (by decide +kernel) (by decide +kernel)
theorem zw_646 : Cond.lays "java/lang/ArrayIndexOutOfBoundsException" "java/lang/Throwable" "detailMessage" "Ljava/lang/String;" ∈ zB := zB_t (i := 646) (by decide +kernel) (by decide +kernel)
theorem zw_647 : Cond.lays "java/lang/ArrayIndexOutOfBoundsException" "java/lang/Throwable" "cause" "Ljava/lang/Throwable;" ∈ zB := zB_t (i := 647) (by decide +kernel) (by decide +kernel)
theorem zw_648 : Cond.lays "java/lang/ArrayIndexOutOfBoundsException" "java/lang/Throwable" "stackTrace" "[Ljava/lang/StackTraceElement;" ∈ zB := zB_t (i := 648) (by decide +kernel) (by decide +kernel)
theorem zw_649 : Cond.lays "java/lang/ArrayIndexOutOfBoundsException" "java/lang/Throwable" "depth" "I" ∈ zB := zB_t (i := 649) (by decide +kernel) (by decide +kernel)
theorem zw_650 : Cond.lays "java/lang/ArrayIndexOutOfBoundsException" "java/lang/Throwable" "suppressedExceptions" "Ljava/util/List;" ∈ zB := zB_t (i := 650) (by decide +kernel) (by decide +kernel)
theorem zw_652 : Cond.methodLink "LzwBox$Packer" (46 : Nat) ({ cls := "LzwBox$Packer", name := "childOf", desc := "(II)I" } : MethodName) ∈ zB := zB_t (i := 652) (by decide +kernel) (by decide +kernel)
theorem zw_654 : Cond.instanceMethod ({ cls := "LzwBox$Packer", name := "childOf", desc := "(II)I" } : MethodName) ∈ zB := zB_t (i := 654) (by decide +kernel) (by decide +kernel)
theorem zw_655 : Cond.code ({ cls := "LzwBox$Packer", name := "childOf", desc := "(II)I" } : MethodName) prog_4_method_5_code (5 : Nat) (Option.some FieldType.int) ∈ zB := zB_t (i := 655) (by decide +kernel) (by decide +kernel)
theorem zw_656 : Cond.methodLink "LzwBox$Packer" (50 : Nat) ({ cls := "LzwBox$Packer", name := "writeRow", desc := "(I)V" } : MethodName) ∈ zB := zB_t (i := 656) (by decide +kernel) (by decide +kernel)
theorem zw_658 : Cond.instanceMethod ({ cls := "LzwBox$Packer", name := "writeRow", desc := "(I)V" } : MethodName) ∈ zB := zB_t (i := 658) (by decide +kernel) (by decide +kernel)
theorem zw_659 : Cond.code ({ cls := "LzwBox$Packer", name := "writeRow", desc := "(I)V" } : MethodName) prog_4_method_4_code (2 : Nat) (Option.none : Option FieldType) ∈ zB := zB_t (i := 659) (by decide +kernel) (by decide +kernel)
theorem zw_660 : Cond.methodLink "LzwBox$Packer" (83 : Nat) ({ cls := "LzwBox$Numbering", name := "passCode", desc := "()V" } : MethodName) ∈ zB := zB_t (i := 660) (by decide +kernel) (by decide +kernel)
theorem zw_661 : Cond.methodLink "LzwBox$Packer" (86 : Nat) ({ cls := "LzwBox$Numbering", name := "isFull", desc := "()Z" } : MethodName) ∈ zB := zB_t (i := 661) (by decide +kernel) (by decide +kernel)
theorem zw_662 : Cond.methodLink "LzwBox$Packer" (53 : Nat) ({ cls := "LzwBox$Packer", name := "addChild", desc := "(II)V" } : MethodName) ∈ zB := zB_t (i := 662) (by decide +kernel) (by decide +kernel)
theorem zw_664 : Cond.instanceMethod ({ cls := "LzwBox$Packer", name := "addChild", desc := "(II)V" } : MethodName) ∈ zB := zB_t (i := 664) (by decide +kernel) (by decide +kernel)
theorem zw_665 : Cond.code ({ cls := "LzwBox$Packer", name := "addChild", desc := "(II)V" } : MethodName) prog_4_method_6_code (4 : Nat) (Option.none : Option FieldType) ∈ zB := zB_t (i := 665) (by decide +kernel) (by decide +kernel)
theorem zw_666 : Cond.methodLink "LzwBox$Packer" (90 : Nat) ({ cls := "LzwBox$Numbering", name := "nextCodeMakesRow", desc := "()Z" } : MethodName) ∈ zB := zB_t (i := 666) (by decide +kernel) (by decide +kernel)
theorem zw_667 : Cond.methodLink "LzwBox$Packer" (57 : Nat) ({ cls := "LzwBox$Numbering", name := "ending", desc := "()I" } : MethodName) ∈ zB := zB_t (i := 667) (by decide +kernel) (by decide +kernel)
theorem zw_668 : Cond.methodLink "LzwBox$Packer" (68 : Nat) ({ cls := "LzwBox$BitSink", name := "finish", desc := "()I" } : MethodName) ∈ zB := zB_t (i := 668) (by decide +kernel) (by decide +kernel)
theorem zw_669 : Cond.instanceMethod ({ cls := "LzwBox$BitSink", name := "finish", desc := "()I" } : MethodName) ∈ zB := zB_t (i := 669) (by decide +kernel) (by decide +kernel)
theorem zw_670 : Cond.selects "LzwBox$BitSink" ({ cls := "LzwBox$BitSink", name := "finish", desc := "()I" } : MethodName) ({ cls := "LzwBox$BitSink", name := "finish", desc := "()I" } : MethodName) ∈ zB := zB_t (i := 670) (by decide +kernel) (by decide +kernel)
theorem zw_671 : Cond.code ({ cls := "LzwBox$BitSink", name := "finish", desc := "()I" } : MethodName) prog_2_method_4_code (1 : Nat) (Option.some FieldType.int) ∈ zB := zB_t (i := 671) (by decide +kernel) (by decide +kernel)
theorem zw_672 : Cond.methodLink "LzwBoxLaw" (68 : Nat) ({ cls := "LzwBoxLaw", name := "mask", desc := "(LLzwBox;I)I" } : MethodName) ∈ zB := zB_t (i := 672) (by decide +kernel) (by decide +kernel)
theorem zw_673 : Cond.static ({ cls := "LzwBoxLaw", name := "mask", desc := "(LLzwBox;I)I" } : MethodName) ∈ zB := zB_t (i := 673) (by decide +kernel) (by decide +kernel)
theorem zw_674 : Cond.codeWith ({ cls := "LzwBoxLaw", name := "mask", desc := "(LLzwBox;I)I" } : MethodName) method_7_code (3 : Nat) (Option.some FieldType.int) [((0 : Nat), (5 : Nat), (8 : Nat), (19 : Nat))] ∈ zB := zB_t (i := 674) (by decide +kernel) (by decide +kernel)
theorem zw_675 : Cond.methodLink "LzwBoxLaw" (29 : Nat) ({ cls := "LzwBox", name := "mask", desc := "(I)V" } : MethodName) ∈ zB := zB_t (i := 675) (by decide +kernel) (by decide +kernel)
theorem zw_676 : Cond.instanceMethod ({ cls := "LzwBox", name := "mask", desc := "(I)V" } : MethodName) ∈ zB := zB_t (i := 676) (by decide +kernel) (by decide +kernel)
theorem zw_677 : Cond.selects "LzwBox" ({ cls := "LzwBox", name := "mask", desc := "(I)V" } : MethodName) ({ cls := "LzwBox", name := "mask", desc := "(I)V" } : MethodName) ∈ zB := zB_t (i := 677) (by decide +kernel) (by decide +kernel)
theorem zw_678 : Cond.code ({ cls := "LzwBox", name := "mask", desc := "(I)V" } : MethodName) prog_1_method_7_code (4 : Nat) (Option.none : Option FieldType) ∈ zB := zB_t (i := 678) (by decide +kernel) (by decide +kernel)
theorem zw_679 : Cond.methodLink "LzwBoxLaw" (72 : Nat) ({ cls := "LzwBoxLaw", name := "word", desc := "(LLzwBox;I[J)I" } : MethodName) ∈ zB := zB_t (i := 679) (by decide +kernel) (by decide +kernel)
theorem zw_680 : Cond.static ({ cls := "LzwBoxLaw", name := "word", desc := "(LLzwBox;I[J)I" } : MethodName) ∈ zB := zB_t (i := 680) (by decide +kernel) (by decide +kernel)
theorem zw_681 : Cond.codeWith ({ cls := "LzwBoxLaw", name := "word", desc := "(LLzwBox;I[J)I" } : MethodName) method_8_code (4 : Nat) (Option.some FieldType.int) [((0 : Nat), (8 : Nat), (11 : Nat), (13 : Nat))] ∈ zB := zB_t (i := 681) (by decide +kernel) (by decide +kernel)
theorem zw_682 : Cond.methodLink "LzwBoxLaw" (33 : Nat) ({ cls := "LzwBox", name := "word", desc := "(I)J" } : MethodName) ∈ zB := zB_t (i := 682) (by decide +kernel) (by decide +kernel)
theorem zw_683 : Cond.instanceMethod ({ cls := "LzwBox", name := "word", desc := "(I)J" } : MethodName) ∈ zB := zB_t (i := 683) (by decide +kernel) (by decide +kernel)
theorem zw_684 : Cond.selects "LzwBox" ({ cls := "LzwBox", name := "word", desc := "(I)J" } : MethodName) ({ cls := "LzwBox", name := "word", desc := "(I)J" } : MethodName) ∈ zB := zB_t (i := 684) (by decide +kernel) (by decide +kernel)
theorem zw_685 : Cond.code ({ cls := "LzwBox", name := "word", desc := "(I)J" } : MethodName) prog_1_method_8_code (6 : Nat) (Option.some FieldType.long) ∈ zB := zB_t (i := 685) (by decide +kernel) (by decide +kernel)
theorem zw_686 : Cond.stringRef "LzwBox" (84 : Nat) "the result has no such byte" ∈ zB := zB_t (i := 686) (by decide +kernel) (by decide +kernel)
theorem zw_687 : Cond.methodLink "LzwBoxLaw" (75 : Nat) ({ cls := "LzwBoxLaw", name := "count", desc := "(LLzwBox;I[J)I" } : MethodName) ∈ zB := zB_t (i := 687) (by decide +kernel) (by decide +kernel)
theorem zw_688 : Cond.static ({ cls := "LzwBoxLaw", name := "count", desc := "(LLzwBox;I[J)I" } : MethodName) ∈ zB := zB_t (i := 688) (by decide +kernel) (by decide +kernel)
theorem zw_689 : Cond.codeWith ({ cls := "LzwBoxLaw", name := "count", desc := "(LLzwBox;I[J)I" } : MethodName) method_9_code (4 : Nat) (Option.some FieldType.int) [((0 : Nat), (9 : Nat), (12 : Nat), (19 : Nat))] ∈ zB := zB_t (i := 689) (by decide +kernel) (by decide +kernel)
theorem zw_690 : Cond.methodLink "LzwBoxLaw" (37 : Nat) ({ cls := "LzwBox", name := "count", desc := "(I)I" } : MethodName) ∈ zB := zB_t (i := 690) (by decide +kernel) (by decide +kernel)
theorem zw_691 : Cond.instanceMethod ({ cls := "LzwBox", name := "count", desc := "(I)I" } : MethodName) ∈ zB := zB_t (i := 691) (by decide +kernel) (by decide +kernel)
theorem zw_692 : Cond.selects "LzwBox" ({ cls := "LzwBox", name := "count", desc := "(I)I" } : MethodName) ({ cls := "LzwBox", name := "count", desc := "(I)I" } : MethodName) ∈ zB := zB_t (i := 692) (by decide +kernel) (by decide +kernel)
theorem zw_693 : Cond.code ({ cls := "LzwBox", name := "count", desc := "(I)I" } : MethodName) prog_1_method_9_code (2 : Nat) (Option.some FieldType.int) ∈ zB := zB_t (i := 693) (by decide +kernel) (by decide +kernel)
theorem zw_694 : Cond.stringRef "LzwBox" (86 : Nat) "only 0 and 1 are counted" ∈ zB := zB_t (i := 694) (by decide +kernel) (by decide +kernel)
theorem zw_695 : Cond.classLink "LzwBoxLaw" (41 : Nat) "LzwBoxModel" ∈ zB := zB_t (i := 695) (by decide +kernel) (by decide +kernel)
theorem zw_696 : Cond.instantiable "LzwBoxModel" (21 : Nat) ∈ zB := zB_t (i := 696) (by decide +kernel) (by decide +kernel)
theorem zw_697 : Cond.methodLink "LzwBoxLaw" (43 : Nat) ({ cls := "LzwBoxModel", name := "<init>", desc := "()V" } : MethodName) ∈ zB := zB_t (i := 697) (by decide +kernel) (by decide +kernel)
theorem zw_698 : Cond.instanceMethod ({ cls := "LzwBoxModel", name := "<init>", desc := "()V" } : MethodName) ∈ zB := zB_t (i := 698) (by decide +kernel) (by decide +kernel)
theorem zw_699 : Cond.code ({ cls := "LzwBoxModel", name := "<init>", desc := "()V" } : MethodName) prog_7_method_1_code (1 : Nat) (Option.none : Option FieldType) ∈ zB := zB_t (i := 699) (by decide +kernel) (by decide +kernel)
theorem zw_700 : Cond.methodLink "LzwBoxModel" (1 : Nat) ({ cls := "java/lang/Object", name := "<init>", desc := "()V" } : MethodName) ∈ zB := zB_t (i := 700) (by decide +kernel) (by decide +kernel)
theorem zw_701 : Cond.constant "LzwBoxModel" (22 : Nat) (65536 : Int32) ∈ zB := zB_t (i := 701) (by decide +kernel) (by decide +kernel)
theorem zw_702 : Cond.constant "LzwBoxModel" (36 : Nat) (1048576 : Int32) ∈ zB := zB_t (i := 702) (by decide +kernel) (by decide +kernel)
theorem zw_703 : Cond.fieldLink "LzwBoxModel" (40 : Nat) "LzwBoxModel" "failed" "I" ∈ zB := zB_t (i := 703) (by decide +kernel) (by decide +kernel)
theorem zw_704 : Cond.fieldLink "LzwBoxModel" (7 : Nat) "LzwBoxModel" "tape" "[B" ∈ zB := zB_t (i := 704) (by decide +kernel) (by decide +kernel)
theorem zw_705 : Cond.fieldLink "LzwBoxModel" (112 : Nat) "LzwBoxModel" "taped" "I" ∈ zB := zB_t (i := 705) (by decide +kernel) (by decide +kernel)
theorem zw_706 : Cond.fieldLink "LzwBoxModel" (13 : Nat) "LzwBoxModel" "result" "[B" ∈ zB := zB_t (i := 706) (by decide +kernel) (by decide +kernel)
theorem zw_707 : Cond.fieldLink "LzwBoxModel" (118 : Nat) "LzwBoxModel" "size" "I" ∈ zB := zB_t (i := 707) (by decide +kernel) (by decide +kernel)
theorem zw_708 : Cond.fieldLink "LzwBoxModel" (16 : Nat) "LzwBoxModel" "data" "[B" ∈ zB := zB_t (i := 708) (by decide +kernel) (by decide +kernel)
theorem zw_709 : Cond.fieldLink "LzwBoxModel" (50 : Nat) "LzwBoxModel" "dataSize" "I" ∈ zB := zB_t (i := 709) (by decide +kernel) (by decide +kernel)
theorem zw_710 : Cond.fieldLink "LzwBoxModel" (19 : Nat) "LzwBoxModel" "rows" "[B" ∈ zB := zB_t (i := 710) (by decide +kernel) (by decide +kernel)
theorem zw_711 : Cond.fieldLink "LzwBoxModel" (63 : Nat) "LzwBoxModel" "rowBytes" "I" ∈ zB := zB_t (i := 711) (by decide +kernel) (by decide +kernel)
theorem zw_712 : Cond.fieldLink "LzwBoxModel" (47 : Nat) "LzwBoxModel" "bitAt" "I" ∈ zB := zB_t (i := 712) (by decide +kernel) (by decide +kernel)
theorem zw_713 : Cond.fieldLink "LzwBoxModel" (23 : Nat) "LzwBoxModel" "out" "[B" ∈ zB := zB_t (i := 713) (by decide +kernel) (by decide +kernel)
theorem zw_714 : Cond.fieldLink "LzwBoxModel" (57 : Nat) "LzwBoxModel" "outSize" "I" ∈ zB := zB_t (i := 714) (by decide +kernel) (by decide +kernel)
theorem zw_715 : Cond.fieldLink "LzwBoxModel" (26 : Nat) "LzwBoxModel" "before" "[I" ∈ zB := zB_t (i := 715) (by decide +kernel) (by decide +kernel)
theorem zw_716 : Cond.fieldLink "LzwBoxModel" (30 : Nat) "LzwBoxModel" "lastIndex" "[I" ∈ zB := zB_t (i := 716) (by decide +kernel) (by decide +kernel)
theorem zw_717 : Cond.fieldLink "LzwBoxModel" (33 : Nat) "LzwBoxModel" "deep" "[I" ∈ zB := zB_t (i := 717) (by decide +kernel) (by decide +kernel)
theorem zw_718 : Cond.fieldLink "LzwBoxModel" (77 : Nat) "LzwBoxModel" "bitBuffer" "I" ∈ zB := zB_t (i := 718) (by decide +kernel) (by decide +kernel)
theorem zw_719 : Cond.fieldLink "LzwBoxModel" (80 : Nat) "LzwBoxModel" "bitCount" "I" ∈ zB := zB_t (i := 719) (by decide +kernel) (by decide +kernel)
theorem zw_720 : Cond.fieldLink "LzwBoxModel" (89 : Nat) "LzwBoxModel" "codeWidth" "I" ∈ zB := zB_t (i := 720) (by decide +kernel) (by decide +kernel)
theorem zw_721 : Cond.fieldLink "LzwBoxModel" (92 : Nat) "LzwBoxModel" "codeNext" "I" ∈ zB := zB_t (i := 721) (by decide +kernel) (by decide +kernel)
theorem zw_722 : Cond.fieldLink "LzwBoxModel" (95 : Nat) "LzwBoxModel" "codeFirst" "Z" ∈ zB := zB_t (i := 722) (by decide +kernel) (by decide +kernel)
theorem zw_723 : Cond.fieldLink "LzwBoxModel" (37 : Nat) "LzwBoxModel" "kids" "[I" ∈ zB := zB_t (i := 723) (by decide +kernel) (by decide +kernel)
theorem zw_724 : Cond.lays "LzwBoxModel" "LzwBoxModel" "failed" "I" ∈ zB := zB_t (i := 724) (by decide +kernel) (by decide +kernel)
theorem zw_726 : Cond.laysFinal "LzwBoxModel" "LzwBoxModel" "tape" "[B" ∈ zB := zB_t (i := 726) (by decide +kernel) (by decide +kernel)
theorem zw_728 : Cond.lays "LzwBoxModel" "LzwBoxModel" "taped" "I" ∈ zB := zB_t (i := 728) (by decide +kernel) (by decide +kernel)
theorem zw_730 : Cond.laysFinal "LzwBoxModel" "LzwBoxModel" "result" "[B" ∈ zB := zB_t (i := 730) (by decide +kernel) (by decide +kernel)
theorem zw_732 : Cond.lays "LzwBoxModel" "LzwBoxModel" "size" "I" ∈ zB := zB_t (i := 732) (by decide +kernel) (by decide +kernel)
theorem zw_734 : Cond.lays "LzwBoxModel" "LzwBoxModel" "data" "[B" ∈ zB := zB_t (i := 734) (by decide +kernel) (by decide +kernel)
theorem zw_736 : Cond.lays "LzwBoxModel" "LzwBoxModel" "dataSize" "I" ∈ zB := zB_t (i := 736) (by decide +kernel) (by decide +kernel)
theorem zw_738 : Cond.laysFinal "LzwBoxModel" "LzwBoxModel" "rows" "[B" ∈ zB := zB_t (i := 738) (by decide +kernel) (by decide +kernel)
theorem zw_740 : Cond.lays "LzwBoxModel" "LzwBoxModel" "rowBytes" "I" ∈ zB := zB_t (i := 740) (by decide +kernel) (by decide +kernel)
theorem zw_742 : Cond.lays "LzwBoxModel" "LzwBoxModel" "bitAt" "I" ∈ zB := zB_t (i := 742) (by decide +kernel) (by decide +kernel)
theorem zw_744 : Cond.laysFinal "LzwBoxModel" "LzwBoxModel" "out" "[B" ∈ zB := zB_t (i := 744) (by decide +kernel) (by decide +kernel)
theorem zw_746 : Cond.lays "LzwBoxModel" "LzwBoxModel" "outSize" "I" ∈ zB := zB_t (i := 746) (by decide +kernel) (by decide +kernel)
theorem zw_748 : Cond.laysFinal "LzwBoxModel" "LzwBoxModel" "before" "[I" ∈ zB := zB_t (i := 748) (by decide +kernel) (by decide +kernel)
theorem zw_750 : Cond.laysFinal "LzwBoxModel" "LzwBoxModel" "lastIndex" "[I" ∈ zB := zB_t (i := 750) (by decide +kernel) (by decide +kernel)
theorem zw_752 : Cond.laysFinal "LzwBoxModel" "LzwBoxModel" "deep" "[I" ∈ zB := zB_t (i := 752) (by decide +kernel) (by decide +kernel)
theorem zw_754 : Cond.lays "LzwBoxModel" "LzwBoxModel" "bitBuffer" "I" ∈ zB := zB_t (i := 754) (by decide +kernel) (by decide +kernel)
theorem zw_756 : Cond.lays "LzwBoxModel" "LzwBoxModel" "bitCount" "I" ∈ zB := zB_t (i := 756) (by decide +kernel) (by decide +kernel)
theorem zw_758 : Cond.lays "LzwBoxModel" "LzwBoxModel" "codeWidth" "I" ∈ zB := zB_t (i := 758) (by decide +kernel) (by decide +kernel)
theorem zw_760 : Cond.lays "LzwBoxModel" "LzwBoxModel" "codeNext" "I" ∈ zB := zB_t (i := 760) (by decide +kernel) (by decide +kernel)
theorem zw_762 : Cond.lays "LzwBoxModel" "LzwBoxModel" "codeFirst" "Z" ∈ zB := zB_t (i := 762) (by decide +kernel) (by decide +kernel)
theorem zw_764 : Cond.lays "LzwBoxModel" "LzwBoxModel" "kids" "[I" ∈ zB := zB_t (i := 764) (by decide +kernel) (by decide +kernel)
theorem zw_767 : Cond.methodLink "LzwBoxLaw" (50 : Nat) ({ cls := "LzwBoxModel", name := "thrown", desc := "()I" } : MethodName) ∈ zB := zB_t (i := 767) (by decide +kernel) (by decide +kernel)
theorem zw_768 : Cond.instanceMethod ({ cls := "LzwBoxModel", name := "thrown", desc := "()I" } : MethodName) ∈ zB := zB_t (i := 768) (by decide +kernel) (by decide +kernel)
theorem zw_769 : Cond.selects "LzwBoxModel" ({ cls := "LzwBoxModel", name := "thrown", desc := "()I" } : MethodName) ({ cls := "LzwBoxModel", name := "thrown", desc := "()I" } : MethodName) ∈ zB := zB_t (i := 769) (by decide +kernel) (by decide +kernel)
theorem zw_770 : Cond.code ({ cls := "LzwBoxModel", name := "thrown", desc := "()I" } : MethodName) prog_7_method_2_code (1 : Nat) (Option.some FieldType.int) ∈ zB := zB_t (i := 770) (by decide +kernel) (by decide +kernel)
theorem zw_771 : Cond.methodLink "LzwBoxLaw" (64 : Nat) ({ cls := "LzwBoxModel", name := "unpack", desc := "(I)I" } : MethodName) ∈ zB := zB_t (i := 771) (by decide +kernel) (by decide +kernel)
theorem zw_772 : Cond.instanceMethod ({ cls := "LzwBoxModel", name := "unpack", desc := "(I)I" } : MethodName) ∈ zB := zB_t (i := 772) (by decide +kernel) (by decide +kernel)
theorem zw_773 : Cond.selects "LzwBoxModel" ({ cls := "LzwBoxModel", name := "unpack", desc := "(I)I" } : MethodName) ({ cls := "LzwBoxModel", name := "unpack", desc := "(I)I" } : MethodName) ∈ zB := zB_t (i := 773) (by decide +kernel) (by decide +kernel)
theorem zw_774 : Cond.codeWith ({ cls := "LzwBoxModel", name := "unpack", desc := "(I)I" } : MethodName) prog_7_method_15_code (3 : Nat) (Option.some FieldType.int) [((68 : Nat), (73 : Nat), (76 : Nat), (44 : Nat)), ((68 : Nat), (73 : Nat), (83 : Nat), (60 : Nat))] ∈ zB := zB_t (i := 774) (by decide +kernel) (by decide +kernel)
theorem zw_775 : Cond.classLink "LzwBoxModel" (44 : Nat) "java/lang/UnsupportedOperationException" ∈ zB := zB_t (i := 775) (by decide +kernel) (by decide +kernel)
theorem zw_776 : Cond.classLink "LzwBoxModel" (60 : Nat) "java/lang/IndexOutOfBoundsException" ∈ zB := zB_t (i := 776) (by decide +kernel) (by decide +kernel)
theorem zw_777 : Cond.methodLink "LzwBoxModel" (109 : Nat) ({ cls := "LzwBoxModel", name := "fail", desc := "(I)I" } : MethodName) ∈ zB := zB_t (i := 777) (by decide +kernel) (by decide +kernel)
theorem zw_779 : Cond.instanceMethod ({ cls := "LzwBoxModel", name := "fail", desc := "(I)I" } : MethodName) ∈ zB := zB_t (i := 779) (by decide +kernel) (by decide +kernel)
theorem zw_780 : Cond.code ({ cls := "LzwBoxModel", name := "fail", desc := "(I)I" } : MethodName) prog_7_method_3_code (2 : Nat) (Option.some FieldType.int) ∈ zB := zB_t (i := 780) (by decide +kernel) (by decide +kernel)
theorem zw_781 : Cond.methodLink "LzwBoxModel" (115 : Nat) ({ cls := "LzwBoxModel", name := "unrows", desc := "(I)V" } : MethodName) ∈ zB := zB_t (i := 781) (by decide +kernel) (by decide +kernel)
theorem zw_783 : Cond.instanceMethod ({ cls := "LzwBoxModel", name := "unrows", desc := "(I)V" } : MethodName) ∈ zB := zB_t (i := 783) (by decide +kernel) (by decide +kernel)
theorem zw_784 : Cond.code ({ cls := "LzwBoxModel", name := "unrows", desc := "(I)V" } : MethodName) prog_7_method_9_code (7 : Nat) (Option.none : Option FieldType) ∈ zB := zB_t (i := 784) (by decide +kernel) (by decide +kernel)
theorem zw_785 : Cond.methodLink "LzwBoxModel" (66 : Nat) ({ cls := "LzwBoxModel", name := "bits", desc := "(I)I" } : MethodName) ∈ zB := zB_t (i := 785) (by decide +kernel) (by decide +kernel)
theorem zw_787 : Cond.instanceMethod ({ cls := "LzwBoxModel", name := "bits", desc := "(I)I" } : MethodName) ∈ zB := zB_t (i := 787) (by decide +kernel) (by decide +kernel)
theorem zw_788 : Cond.code ({ cls := "LzwBoxModel", name := "bits", desc := "(I)I" } : MethodName) prog_7_method_5_code (4 : Nat) (Option.some FieldType.int) ∈ zB := zB_t (i := 788) (by decide +kernel) (by decide +kernel)
theorem zw_789 : Cond.methodLink "LzwBoxModel" (53 : Nat) ({ cls := "LzwBoxModel", name := "can", desc := "(Z)V" } : MethodName) ∈ zB := zB_t (i := 789) (by decide +kernel) (by decide +kernel)
theorem zw_791 : Cond.instanceMethod ({ cls := "LzwBoxModel", name := "can", desc := "(Z)V" } : MethodName) ∈ zB := zB_t (i := 791) (by decide +kernel) (by decide +kernel)
theorem zw_792 : Cond.code ({ cls := "LzwBoxModel", name := "can", desc := "(Z)V" } : MethodName) prog_7_method_4_code (2 : Nat) (Option.none : Option FieldType) ∈ zB := zB_t (i := 792) (by decide +kernel) (by decide +kernel)
theorem zw_793 : Cond.methodLink "LzwBoxModel" (46 : Nat) ({ cls := "java/lang/UnsupportedOperationException", name := "<init>", desc := "()V" } : MethodName) ∈ zB := zB_t (i := 793) (by decide +kernel) (by decide +kernel)
theorem zw_794 : Cond.instanceMethod ({ cls := "java/lang/UnsupportedOperationException", name := "<init>", desc := "()V" } : MethodName) ∈ zB := zB_t (i := 794) (by decide +kernel) (by decide +kernel)
theorem zw_795 : Cond.code ({ cls := "java/lang/UnsupportedOperationException", name := "<init>", desc := "()V" } : MethodName) prog_23_method_1_code (1 : Nat) (Option.none : Option FieldType) ∈ zB := zB_t (i := 795) (by decide +kernel) (by decide +kernel)
theorem zw_796 : Cond.methodLink "java/lang/UnsupportedOperationException" (1 : Nat) ({ cls := "java/lang/RuntimeException", name := "<init>", desc := "()V" } : MethodName) ∈ zB := zB_t (i := 796) (by decide +kernel) (by decide +kernel)
theorem zw_797 : Cond.instanceMethod ({ cls := "java/lang/RuntimeException", name := "<init>", desc := "()V" } : MethodName) ∈ zB := zB_t (i := 797) (by decide +kernel) (by decide +kernel)
theorem zw_798 : Cond.code ({ cls := "java/lang/RuntimeException", name := "<init>", desc := "()V" } : MethodName) prog_16_method_1_code (1 : Nat) (Option.none : Option FieldType) ∈ zB := zB_t (i := 798) (by decide +kernel) (by decide +kernel)
theorem zw_799 : Cond.methodLink "java/lang/RuntimeException" (1 : Nat) ({ cls := "java/lang/Exception", name := "<init>", desc := "()V" } : MethodName) ∈ zB := zB_t (i := 799) (by decide +kernel) (by decide +kernel)
theorem zw_800 : Cond.instanceMethod ({ cls := "java/lang/Exception", name := "<init>", desc := "()V" } : MethodName) ∈ zB := zB_t (i := 800) (by decide +kernel) (by decide +kernel)
theorem zw_801 : Cond.code ({ cls := "java/lang/Exception", name := "<init>", desc := "()V" } : MethodName) prog_11_method_1_code (1 : Nat) (Option.none : Option FieldType) ∈ zB := zB_t (i := 801) (by decide +kernel) (by decide +kernel)
theorem zw_802 : Cond.methodLink "java/lang/Exception" (1 : Nat) ({ cls := "java/lang/Throwable", name := "<init>", desc := "()V" } : MethodName) ∈ zB := zB_t (i := 802) (by decide +kernel) (by decide +kernel)
theorem zw_803 : Cond.methodLink "LzwBoxModel" (70 : Nat) ({ cls := "LzwBoxModel", name := "firstOf", desc := "(I)I" } : MethodName) ∈ zB := zB_t (i := 803) (by decide +kernel) (by decide +kernel)
theorem zw_805 : Cond.instanceMethod ({ cls := "LzwBoxModel", name := "firstOf", desc := "(I)I" } : MethodName) ∈ zB := zB_t (i := 805) (by decide +kernel) (by decide +kernel)
theorem zw_806 : Cond.code ({ cls := "LzwBoxModel", name := "firstOf", desc := "(I)I" } : MethodName) prog_7_method_7_code (3 : Nat) (Option.some FieldType.int) ∈ zB := zB_t (i := 806) (by decide +kernel) (by decide +kernel)
theorem zw_807 : Cond.methodLink "LzwBoxModel" (73 : Nat) ({ cls := "LzwBoxModel", name := "giveRow", desc := "(I)V" } : MethodName) ∈ zB := zB_t (i := 807) (by decide +kernel) (by decide +kernel)
theorem zw_809 : Cond.instanceMethod ({ cls := "LzwBoxModel", name := "giveRow", desc := "(I)V" } : MethodName) ∈ zB := zB_t (i := 809) (by decide +kernel) (by decide +kernel)
theorem zw_810 : Cond.code ({ cls := "LzwBoxModel", name := "giveRow", desc := "(I)V" } : MethodName) prog_7_method_8_code (5 : Nat) (Option.none : Option FieldType) ∈ zB := zB_t (i := 810) (by decide +kernel) (by decide +kernel)
theorem zw_811 : Cond.methodLink "LzwBoxModel" (62 : Nat) ({ cls := "java/lang/IndexOutOfBoundsException", name := "<init>", desc := "()V" } : MethodName) ∈ zB := zB_t (i := 811) (by decide +kernel) (by decide +kernel)
theorem zw_812 : Cond.instanceMethod ({ cls := "java/lang/IndexOutOfBoundsException", name := "<init>", desc := "()V" } : MethodName) ∈ zB := zB_t (i := 812) (by decide +kernel) (by decide +kernel)
theorem zw_813 : Cond.code ({ cls := "java/lang/IndexOutOfBoundsException", name := "<init>", desc := "()V" } : MethodName) prog_13_method_1_code (1 : Nat) (Option.none : Option FieldType) ∈ zB := zB_t (i := 813) (by decide +kernel) (by decide +kernel)
theorem zw_814 : Cond.methodLink "java/lang/IndexOutOfBoundsException" (1 : Nat) ({ cls := "java/lang/RuntimeException", name := "<init>", desc := "()V" } : MethodName) ∈ zB := zB_t (i := 814) (by decide +kernel) (by decide +kernel)
theorem zw_815 : Cond.methodLink "LzwBoxLaw" (67 : Nat) ({ cls := "LzwBoxModel", name := "pack", desc := "(I)I" } : MethodName) ∈ zB := zB_t (i := 815) (by decide +kernel) (by decide +kernel)
theorem zw_816 : Cond.instanceMethod ({ cls := "LzwBoxModel", name := "pack", desc := "(I)I" } : MethodName) ∈ zB := zB_t (i := 816) (by decide +kernel) (by decide +kernel)
theorem zw_817 : Cond.selects "LzwBoxModel" ({ cls := "LzwBoxModel", name := "pack", desc := "(I)I" } : MethodName) ({ cls := "LzwBoxModel", name := "pack", desc := "(I)I" } : MethodName) ∈ zB := zB_t (i := 817) (by decide +kernel) (by decide +kernel)
theorem zw_818 : Cond.code ({ cls := "LzwBoxModel", name := "pack", desc := "(I)I" } : MethodName) prog_7_method_16_code (3 : Nat) (Option.some FieldType.int) ∈ zB := zB_t (i := 818) (by decide +kernel) (by decide +kernel)
theorem zw_819 : Cond.methodLink "LzwBoxModel" (121 : Nat) ({ cls := "LzwBoxModel", name := "pack", desc := "(II)V" } : MethodName) ∈ zB := zB_t (i := 819) (by decide +kernel) (by decide +kernel)
theorem zw_821 : Cond.instanceMethod ({ cls := "LzwBoxModel", name := "pack", desc := "(II)V" } : MethodName) ∈ zB := zB_t (i := 821) (by decide +kernel) (by decide +kernel)
theorem zw_822 : Cond.code ({ cls := "LzwBoxModel", name := "pack", desc := "(II)V" } : MethodName) prog_7_method_14_code (10 : Nat) (Option.none : Option FieldType) ∈ zB := zB_t (i := 822) (by decide +kernel) (by decide +kernel)
theorem zw_823 : Cond.methodLink "LzwBoxModel" (103 : Nat) ({ cls := "LzwBoxModel", name := "begin", desc := "(I)V" } : MethodName) ∈ zB := zB_t (i := 823) (by decide +kernel) (by decide +kernel)
theorem zw_825 : Cond.instanceMethod ({ cls := "LzwBoxModel", name := "begin", desc := "(I)V" } : MethodName) ∈ zB := zB_t (i := 825) (by decide +kernel) (by decide +kernel)
theorem zw_826 : Cond.code ({ cls := "LzwBoxModel", name := "begin", desc := "(I)V" } : MethodName) prog_7_method_12_code (2 : Nat) (Option.none : Option FieldType) ∈ zB := zB_t (i := 826) (by decide +kernel) (by decide +kernel)
theorem zw_827 : Cond.methodLink "LzwBoxModel" (99 : Nat) ({ cls := "LzwBoxModel", name := "putBits", desc := "(II)V" } : MethodName) ∈ zB := zB_t (i := 827) (by decide +kernel) (by decide +kernel)
theorem zw_829 : Cond.instanceMethod ({ cls := "LzwBoxModel", name := "putBits", desc := "(II)V" } : MethodName) ∈ zB := zB_t (i := 829) (by decide +kernel) (by decide +kernel)
theorem zw_830 : Cond.code ({ cls := "LzwBoxModel", name := "putBits", desc := "(II)V" } : MethodName) prog_7_method_10_code (4 : Nat) (Option.none : Option FieldType) ∈ zB := zB_t (i := 830) (by decide +kernel) (by decide +kernel)
theorem zw_831 : Cond.methodLink "LzwBoxModel" (83 : Nat) ({ cls := "LzwBoxModel", name := "flush", desc := "()V" } : MethodName) ∈ zB := zB_t (i := 831) (by decide +kernel) (by decide +kernel)
theorem zw_833 : Cond.instanceMethod ({ cls := "LzwBoxModel", name := "flush", desc := "()V" } : MethodName) ∈ zB := zB_t (i := 833) (by decide +kernel) (by decide +kernel)
theorem zw_834 : Cond.code ({ cls := "LzwBoxModel", name := "flush", desc := "()V" } : MethodName) prog_7_method_11_code (1 : Nat) (Option.none : Option FieldType) ∈ zB := zB_t (i := 834) (by decide +kernel) (by decide +kernel)
theorem zw_835 : Cond.methodLink "LzwBoxModel" (86 : Nat) ({ cls := "LzwBoxModel", name := "put", desc := "(I)V" } : MethodName) ∈ zB := zB_t (i := 835) (by decide +kernel) (by decide +kernel)
theorem zw_837 : Cond.instanceMethod ({ cls := "LzwBoxModel", name := "put", desc := "(I)V" } : MethodName) ∈ zB := zB_t (i := 837) (by decide +kernel) (by decide +kernel)
theorem zw_838 : Cond.code ({ cls := "LzwBoxModel", name := "put", desc := "(I)V" } : MethodName) prog_7_method_6_code (2 : Nat) (Option.none : Option FieldType) ∈ zB := zB_t (i := 838) (by decide +kernel) (by decide +kernel)
theorem zw_839 : Cond.methodLink "LzwBoxModel" (106 : Nat) ({ cls := "LzwBoxModel", name := "emit", desc := "(I)V" } : MethodName) ∈ zB := zB_t (i := 839) (by decide +kernel) (by decide +kernel)
theorem zw_841 : Cond.instanceMethod ({ cls := "LzwBoxModel", name := "emit", desc := "(I)V" } : MethodName) ∈ zB := zB_t (i := 841) (by decide +kernel) (by decide +kernel)
theorem zw_842 : Cond.code ({ cls := "LzwBoxModel", name := "emit", desc := "(I)V" } : MethodName) prog_7_method_13_code (2 : Nat) (Option.none : Option FieldType) ∈ zB := zB_t (i := 842) (by decide +kernel) (by decide +kernel)
theorem zw_843 : Cond.methodLink "LzwBoxLaw" (71 : Nat) ({ cls := "LzwBoxModel", name := "mask", desc := "(I)V" } : MethodName) ∈ zB := zB_t (i := 843) (by decide +kernel) (by decide +kernel)
theorem zw_844 : Cond.instanceMethod ({ cls := "LzwBoxModel", name := "mask", desc := "(I)V" } : MethodName) ∈ zB := zB_t (i := 844) (by decide +kernel) (by decide +kernel)
theorem zw_845 : Cond.selects "LzwBoxModel" ({ cls := "LzwBoxModel", name := "mask", desc := "(I)V" } : MethodName) ({ cls := "LzwBoxModel", name := "mask", desc := "(I)V" } : MethodName) ∈ zB := zB_t (i := 845) (by decide +kernel) (by decide +kernel)
theorem zw_846 : Cond.code ({ cls := "LzwBoxModel", name := "mask", desc := "(I)V" } : MethodName) prog_7_method_17_code (3 : Nat) (Option.none : Option FieldType) ∈ zB := zB_t (i := 846) (by decide +kernel) (by decide +kernel)
theorem zw_847 : Cond.methodLink "LzwBoxLaw" (49 : Nat) ({ cls := "LzwBoxModel", name := "feed", desc := "(IIIII)I" } : MethodName) ∈ zB := zB_t (i := 847) (by decide +kernel) (by decide +kernel)
theorem zw_848 : Cond.instanceMethod ({ cls := "LzwBoxModel", name := "feed", desc := "(IIIII)I" } : MethodName) ∈ zB := zB_t (i := 848) (by decide +kernel) (by decide +kernel)
theorem zw_849 : Cond.selects "LzwBoxModel" ({ cls := "LzwBoxModel", name := "feed", desc := "(IIIII)I" } : MethodName) ({ cls := "LzwBoxModel", name := "feed", desc := "(IIIII)I" } : MethodName) ∈ zB := zB_t (i := 849) (by decide +kernel) (by decide +kernel)
theorem zw_850 : Cond.code ({ cls := "LzwBoxModel", name := "feed", desc := "(IIIII)I" } : MethodName) prog_7_method_18_code (8 : Nat) (Option.some FieldType.int) ∈ zB := zB_t (i := 850) (by decide +kernel) (by decide +kernel)
theorem zw_851 : Cond.methodLink "LzwBoxLaw" (57 : Nat) ({ cls := "LzwBoxModel", name := "end", desc := "(I)I" } : MethodName) ∈ zB := zB_t (i := 851) (by decide +kernel) (by decide +kernel)
theorem zw_852 : Cond.instanceMethod ({ cls := "LzwBoxModel", name := "end", desc := "(I)I" } : MethodName) ∈ zB := zB_t (i := 852) (by decide +kernel) (by decide +kernel)
theorem zw_853 : Cond.selects "LzwBoxModel" ({ cls := "LzwBoxModel", name := "end", desc := "(I)I" } : MethodName) ({ cls := "LzwBoxModel", name := "end", desc := "(I)I" } : MethodName) ∈ zB := zB_t (i := 853) (by decide +kernel) (by decide +kernel)
theorem zw_854 : Cond.code ({ cls := "LzwBoxModel", name := "end", desc := "(I)I" } : MethodName) prog_7_method_19_code (2 : Nat) (Option.some FieldType.int) ∈ zB := zB_t (i := 854) (by decide +kernel) (by decide +kernel)
theorem zw_855 : Cond.methodLink "LzwBoxLaw" (61 : Nat) ({ cls := "LzwBoxModel", name := "again", desc := "()I" } : MethodName) ∈ zB := zB_t (i := 855) (by decide +kernel) (by decide +kernel)
theorem zw_856 : Cond.instanceMethod ({ cls := "LzwBoxModel", name := "again", desc := "()I" } : MethodName) ∈ zB := zB_t (i := 856) (by decide +kernel) (by decide +kernel)
theorem zw_857 : Cond.selects "LzwBoxModel" ({ cls := "LzwBoxModel", name := "again", desc := "()I" } : MethodName) ({ cls := "LzwBoxModel", name := "again", desc := "()I" } : MethodName) ∈ zB := zB_t (i := 857) (by decide +kernel) (by decide +kernel)
theorem zw_858 : Cond.code ({ cls := "LzwBoxModel", name := "again", desc := "()I" } : MethodName) prog_7_method_20_code (2 : Nat) (Option.some FieldType.int) ∈ zB := zB_t (i := 858) (by decide +kernel) (by decide +kernel)
theorem zw_859 : Cond.methodLink "LzwBoxLaw" (74 : Nat) ({ cls := "LzwBoxModel", name := "word", desc := "(I)J" } : MethodName) ∈ zB := zB_t (i := 859) (by decide +kernel) (by decide +kernel)
theorem zw_860 : Cond.instanceMethod ({ cls := "LzwBoxModel", name := "word", desc := "(I)J" } : MethodName) ∈ zB := zB_t (i := 860) (by decide +kernel) (by decide +kernel)
theorem zw_861 : Cond.selects "LzwBoxModel" ({ cls := "LzwBoxModel", name := "word", desc := "(I)J" } : MethodName) ({ cls := "LzwBoxModel", name := "word", desc := "(I)J" } : MethodName) ∈ zB := zB_t (i := 861) (by decide +kernel) (by decide +kernel)
theorem zw_862 : Cond.code ({ cls := "LzwBoxModel", name := "word", desc := "(I)J" } : MethodName) prog_7_method_21_code (5 : Nat) (Option.some FieldType.long) ∈ zB := zB_t (i := 862) (by decide +kernel) (by decide +kernel)
theorem zw_863 : Cond.constantLong "LzwBoxModel" (124 : Nat) (256 : Int64) ∈ zB := zB_t (i := 863) (by decide +kernel) (by decide +kernel)
theorem zw_864 : Cond.methodLink "LzwBoxLaw" (77 : Nat) ({ cls := "LzwBoxModel", name := "count", desc := "(I)I" } : MethodName) ∈ zB := zB_t (i := 864) (by decide +kernel) (by decide +kernel)
theorem zw_865 : Cond.instanceMethod ({ cls := "LzwBoxModel", name := "count", desc := "(I)I" } : MethodName) ∈ zB := zB_t (i := 865) (by decide +kernel) (by decide +kernel)
theorem zw_866 : Cond.selects "LzwBoxModel" ({ cls := "LzwBoxModel", name := "count", desc := "(I)I" } : MethodName) ({ cls := "LzwBoxModel", name := "count", desc := "(I)I" } : MethodName) ∈ zB := zB_t (i := 866) (by decide +kernel) (by decide +kernel)
theorem zw_867 : Cond.code ({ cls := "LzwBoxModel", name := "count", desc := "(I)I" } : MethodName) prog_7_method_22_code (2 : Nat) (Option.some FieldType.int) ∈ zB := zB_t (i := 867) (by decide +kernel) (by decide +kernel)
theorem zw_868 : Cond.arrayClass FieldType.long ∈ zB := zB_t (i := 868) (by decide +kernel) (by decide +kernel)
theorem zw_878 : Cond.castable "java/lang/ArrayIndexOutOfBoundsException" "java/lang/IndexOutOfBoundsException" ∈ zB := zB_t (i := 878) (by decide +kernel) (by decide +kernel)
end
section
theorem d_BS_init_0 : decode b_BS_init 0 = .ok (.aload_n 0, 1) := by decide +kernel
theorem d_BS_init_1 : decode b_BS_init 1 = .ok (.invokespecial 3, 3) := by decide +kernel
theorem d_BS_init_4 : decode b_BS_init 4 = .ok (.aload_n 0, 1) := by decide +kernel
theorem d_BS_init_5 : decode b_BS_init 5 = .ok (.iconst 0, 1) := by decide +kernel
theorem d_BS_init_6 : decode b_BS_init 6 = .ok (.newarray .byte, 2) := by decide +kernel
theorem d_BS_init_8 : decode b_BS_init 8 = .ok (.putfield 9, 3) := by decide +kernel
theorem d_BS_init_11 : decode b_BS_init 11 = .ok (.aload_n 0, 1) := by decide +kernel
theorem d_BS_init_12 : decode b_BS_init 12 = .ok (.iconst 0, 1) := by decide +kernel
theorem d_BS_init_13 : decode b_BS_init 13 = .ok (.putfield 15, 3) := by decide +kernel
theorem d_BS_init_16 : decode b_BS_init 16 = .ok (.aload_n 0, 1) := by decide +kernel
theorem d_BS_init_17 : decode b_BS_init 17 = .ok (.iconst 0, 1) := by decide +kernel
theorem d_BS_init_18 : decode b_BS_init 18 = .ok (.putfield 19, 3) := by decide +kernel
theorem d_BS_init_21 : decode b_BS_init 21 = .ok (.aload_n 0, 1) := by decide +kernel
theorem d_BS_init_22 : decode b_BS_init 22 = .ok (.iconst 0, 1) := by decide +kernel
theorem d_BS_init_23 : decode b_BS_init 23 = .ok (.putfield 22, 3) := by decide +kernel
theorem d_BS_init_26 : decode b_BS_init 26 = .ok (.return_, 1) := by decide +kernel
theorem d_BS_startOn_0 : decode b_BS_startOn 0 = .ok (.aload_n 0, 1) := by decide +kernel
theorem d_BS_startOn_1 : decode b_BS_startOn 1 = .ok (.aload_n 1, 1) := by decide +kernel
theorem d_BS_startOn_2 : decode b_BS_startOn 2 = .ok (.putfield 9, 3) := by decide +kernel
theorem d_BS_startOn_5 : decode b_BS_startOn 5 = .ok (.aload_n 0, 1) := by decide +kernel
theorem d_BS_startOn_6 : decode b_BS_startOn 6 = .ok (.iconst 0, 1) := by decide +kernel
theorem d_BS_startOn_7 : decode b_BS_startOn 7 = .ok (.putfield 15, 3) := by decide +kernel
theorem d_BS_startOn_10 : decode b_BS_startOn 10 = .ok (.aload_n 0, 1) := by decide +kernel
theorem d_BS_startOn_11 : decode b_BS_startOn 11 = .ok (.iconst 0, 1) := by decide +kernel
theorem d_BS_startOn_12 : decode b_BS_startOn 12 = .ok (.putfield 19, 3) := by decide +kernel
theorem d_BS_startOn_15 : decode b_BS_startOn 15 = .ok (.aload_n 0, 1) := by decide +kernel
theorem d_BS_startOn_16 : decode b_BS_startOn 16 = .ok (.iconst 0, 1) := by decide +kernel
theorem d_BS_startOn_17 : decode b_BS_startOn 17 = .ok (.putfield 22, 3) := by decide +kernel
theorem d_BS_startOn_20 : decode b_BS_startOn 20 = .ok (.return_, 1) := by decide +kernel
theorem d_BS_put_0 : decode b_BS_put 0 = .ok (.aload_n 0, 1) := by decide +kernel
theorem d_BS_put_1 : decode b_BS_put 1 = .ok (.dup, 1) := by decide +kernel
theorem d_BS_put_2 : decode b_BS_put 2 = .ok (.getfield 19, 3) := by decide +kernel
theorem d_BS_put_5 : decode b_BS_put 5 = .ok (.iload_n 1, 1) := by decide +kernel
theorem d_BS_put_6 : decode b_BS_put 6 = .ok (.aload_n 0, 1) := by decide +kernel
theorem d_BS_put_7 : decode b_BS_put 7 = .ok (.getfield 22, 3) := by decide +kernel
theorem d_BS_put_10 : decode b_BS_put 10 = .ok (.ishl, 1) := by decide +kernel
theorem d_BS_put_11 : decode b_BS_put 11 = .ok (.ior, 1) := by decide +kernel
theorem d_BS_put_12 : decode b_BS_put 12 = .ok (.putfield 19, 3) := by decide +kernel
theorem d_BS_put_15 : decode b_BS_put 15 = .ok (.aload_n 0, 1) := by decide +kernel
theorem d_BS_put_16 : decode b_BS_put 16 = .ok (.dup, 1) := by decide +kernel
theorem d_BS_put_17 : decode b_BS_put 17 = .ok (.getfield 22, 3) := by decide +kernel
theorem d_BS_put_20 : decode b_BS_put 20 = .ok (.iload_n 2, 1) := by decide +kernel
theorem d_BS_put_21 : decode b_BS_put 21 = .ok (.iadd, 1) := by decide +kernel
theorem d_BS_put_22 : decode b_BS_put 22 = .ok (.putfield 22, 3) := by decide +kernel
theorem d_BS_put_25 : decode b_BS_put 25 = .ok (.aload_n 0, 1) := by decide +kernel
theorem d_BS_put_26 : decode b_BS_put 26 = .ok (.getfield 22, 3) := by decide +kernel
theorem d_BS_put_29 : decode b_BS_put 29 = .ok (.bipush 8, 2) := by decide +kernel
theorem d_BS_put_31 : decode b_BS_put 31 = .ok (.if_icmp .lt 21, 3) := by decide +kernel
theorem d_BS_put_34 : decode b_BS_put 34 = .ok (.aload_n 0, 1) := by decide +kernel
theorem d_BS_put_35 : decode b_BS_put 35 = .ok (.invokevirtual 25, 3) := by decide +kernel
theorem d_BS_put_38 : decode b_BS_put 38 = .ok (.aload_n 0, 1) := by decide +kernel
theorem d_BS_put_39 : decode b_BS_put 39 = .ok (.dup, 1) := by decide +kernel
theorem d_BS_put_40 : decode b_BS_put 40 = .ok (.getfield 22, 3) := by decide +kernel
theorem d_BS_put_43 : decode b_BS_put 43 = .ok (.bipush 8, 2) := by decide +kernel
theorem d_BS_put_45 : decode b_BS_put 45 = .ok (.isub, 1) := by decide +kernel
theorem d_BS_put_46 : decode b_BS_put 46 = .ok (.putfield 22, 3) := by decide +kernel
theorem d_BS_put_49 : decode b_BS_put 49 = .ok (.goto (-24), 3) := by decide +kernel
theorem d_BS_put_52 : decode b_BS_put 52 = .ok (.return_, 1) := by decide +kernel
theorem d_BS_finish_0 : decode b_BS_finish 0 = .ok (.aload_n 0, 1) := by decide +kernel
theorem d_BS_finish_1 : decode b_BS_finish 1 = .ok (.getfield 22, 3) := by decide +kernel
theorem d_BS_finish_4 : decode b_BS_finish 4 = .ok (.ifCond .le 12, 3) := by decide +kernel
theorem d_BS_finish_7 : decode b_BS_finish 7 = .ok (.aload_n 0, 1) := by decide +kernel
theorem d_BS_finish_8 : decode b_BS_finish 8 = .ok (.invokevirtual 25, 3) := by decide +kernel
theorem d_BS_finish_11 : decode b_BS_finish 11 = .ok (.aload_n 0, 1) := by decide +kernel
theorem d_BS_finish_12 : decode b_BS_finish 12 = .ok (.iconst 0, 1) := by decide +kernel
theorem d_BS_finish_13 : decode b_BS_finish 13 = .ok (.putfield 22, 3) := by decide +kernel
theorem d_BS_finish_16 : decode b_BS_finish 16 = .ok (.aload_n 0, 1) := by decide +kernel
theorem d_BS_finish_17 : decode b_BS_finish 17 = .ok (.getfield 15, 3) := by decide +kernel
theorem d_BS_finish_20 : decode b_BS_finish 20 = .ok (.ireturn, 1) := by decide +kernel
theorem d_BS_putByte_0 : decode b_BS_putByte 0 = .ok (.aload_n 0, 1) := by decide +kernel
theorem d_BS_putByte_1 : decode b_BS_putByte 1 = .ok (.getfield 15, 3) := by decide +kernel
theorem d_BS_putByte_4 : decode b_BS_putByte 4 = .ok (.sipush 16384, 3) := by decide +kernel
theorem d_BS_putByte_7 : decode b_BS_putByte 7 = .ok (.if_icmp .lt 13, 3) := by decide +kernel
theorem d_BS_putByte_10 : decode b_BS_putByte 10 = .ok (.new 28, 3) := by decide +kernel
theorem d_BS_putByte_13 : decode b_BS_putByte 13 = .ok (.dup, 1) := by decide +kernel
theorem d_BS_putByte_14 : decode b_BS_putByte 14 = .ok (.ldc 30, 2) := by decide +kernel
theorem d_BS_putByte_16 : decode b_BS_putByte 16 = .ok (.invokespecial 32, 3) := by decide +kernel
theorem d_BS_putByte_19 : decode b_BS_putByte 19 = .ok (.athrow, 1) := by decide +kernel
theorem d_BS_putByte_20 : decode b_BS_putByte 20 = .ok (.aload_n 0, 1) := by decide +kernel
theorem d_BS_putByte_21 : decode b_BS_putByte 21 = .ok (.getfield 9, 3) := by decide +kernel
theorem d_BS_putByte_24 : decode b_BS_putByte 24 = .ok (.aload_n 0, 1) := by decide +kernel
theorem d_BS_putByte_25 : decode b_BS_putByte 25 = .ok (.getfield 15, 3) := by decide +kernel
theorem d_BS_putByte_28 : decode b_BS_putByte 28 = .ok (.aload_n 0, 1) := by decide +kernel
theorem d_BS_putByte_29 : decode b_BS_putByte 29 = .ok (.getfield 19, 3) := by decide +kernel
theorem d_BS_putByte_32 : decode b_BS_putByte 32 = .ok (.i2b, 1) := by decide +kernel
theorem d_BS_putByte_33 : decode b_BS_putByte 33 = .ok (.bastore, 1) := by decide +kernel
theorem d_BS_putByte_34 : decode b_BS_putByte 34 = .ok (.aload_n 0, 1) := by decide +kernel
theorem d_BS_putByte_35 : decode b_BS_putByte 35 = .ok (.dup, 1) := by decide +kernel
theorem d_BS_putByte_36 : decode b_BS_putByte 36 = .ok (.getfield 15, 3) := by decide +kernel
theorem d_BS_putByte_39 : decode b_BS_putByte 39 = .ok (.iconst 1, 1) := by decide +kernel
theorem d_BS_putByte_40 : decode b_BS_putByte 40 = .ok (.iadd, 1) := by decide +kernel
theorem d_BS_putByte_41 : decode b_BS_putByte 41 = .ok (.putfield 15, 3) := by decide +kernel
theorem d_BS_putByte_44 : decode b_BS_putByte 44 = .ok (.aload_n 0, 1) := by decide +kernel
theorem d_BS_putByte_45 : decode b_BS_putByte 45 = .ok (.dup, 1) := by decide +kernel
theorem d_BS_putByte_46 : decode b_BS_putByte 46 = .ok (.getfield 19, 3) := by decide +kernel
theorem d_BS_putByte_49 : decode b_BS_putByte 49 = .ok (.bipush 8, 2) := by decide +kernel
theorem d_BS_putByte_51 : decode b_BS_putByte 51 = .ok (.iushr, 1) := by decide +kernel
theorem d_BS_putByte_52 : decode b_BS_putByte 52 = .ok (.putfield 19, 3) := by decide +kernel
theorem d_BS_putByte_55 : decode b_BS_putByte 55 = .ok (.return_, 1) := by decide +kernel
theorem d_NU_init_0 : decode b_NU_init 0 = .ok (.aload_n 0, 1) := by decide +kernel
theorem d_NU_init_1 : decode b_NU_init 1 = .ok (.invokespecial 3, 3) := by decide +kernel
theorem d_NU_init_4 : decode b_NU_init 4 = .ok (.return_, 1) := by decide +kernel
theorem d_NU_startWith_0 : decode b_NU_startWith 0 = .ok (.aload_n 0, 1) := by decide +kernel
theorem d_NU_startWith_1 : decode b_NU_startWith 1 = .ok (.iload_n 1, 1) := by decide +kernel
theorem d_NU_startWith_2 : decode b_NU_startWith 2 = .ok (.putfield 9, 3) := by decide +kernel
theorem d_NU_startWith_5 : decode b_NU_startWith 5 = .ok (.aload_n 0, 1) := by decide +kernel
theorem d_NU_startWith_6 : decode b_NU_startWith 6 = .ok (.invokevirtual 15, 3) := by decide +kernel
theorem d_NU_startWith_9 : decode b_NU_startWith 9 = .ok (.return_, 1) := by decide +kernel
theorem d_NU_beginAnew_0 : decode b_NU_beginAnew 0 = .ok (.aload_n 0, 1) := by decide +kernel
theorem d_NU_beginAnew_1 : decode b_NU_beginAnew 1 = .ok (.aload_n 0, 1) := by decide +kernel
theorem d_NU_beginAnew_2 : decode b_NU_beginAnew 2 = .ok (.getfield 9, 3) := by decide +kernel
theorem d_NU_beginAnew_5 : decode b_NU_beginAnew 5 = .ok (.iconst 1, 1) := by decide +kernel
theorem d_NU_beginAnew_6 : decode b_NU_beginAnew 6 = .ok (.iadd, 1) := by decide +kernel
theorem d_NU_beginAnew_7 : decode b_NU_beginAnew 7 = .ok (.putfield 18, 3) := by decide +kernel
theorem d_NU_beginAnew_10 : decode b_NU_beginAnew 10 = .ok (.aload_n 0, 1) := by decide +kernel
theorem d_NU_beginAnew_11 : decode b_NU_beginAnew 11 = .ok (.iconst 1, 1) := by decide +kernel
theorem d_NU_beginAnew_12 : decode b_NU_beginAnew 12 = .ok (.aload_n 0, 1) := by decide +kernel
theorem d_NU_beginAnew_13 : decode b_NU_beginAnew 13 = .ok (.getfield 9, 3) := by decide +kernel
theorem d_NU_beginAnew_16 : decode b_NU_beginAnew 16 = .ok (.ishl, 1) := by decide +kernel
theorem d_NU_beginAnew_17 : decode b_NU_beginAnew 17 = .ok (.iconst 2, 1) := by decide +kernel
theorem d_NU_beginAnew_18 : decode b_NU_beginAnew 18 = .ok (.iadd, 1) := by decide +kernel
theorem d_NU_beginAnew_19 : decode b_NU_beginAnew 19 = .ok (.putfield 21, 3) := by decide +kernel
theorem d_NU_beginAnew_22 : decode b_NU_beginAnew 22 = .ok (.aload_n 0, 1) := by decide +kernel
theorem d_NU_beginAnew_23 : decode b_NU_beginAnew 23 = .ok (.iconst 1, 1) := by decide +kernel
theorem d_NU_beginAnew_24 : decode b_NU_beginAnew 24 = .ok (.putfield 24, 3) := by decide +kernel
theorem d_NU_beginAnew_27 : decode b_NU_beginAnew 27 = .ok (.return_, 1) := by decide +kernel
theorem d_NU_beginning_0 : decode b_NU_beginning 0 = .ok (.iconst 1, 1) := by decide +kernel
theorem d_NU_beginning_1 : decode b_NU_beginning 1 = .ok (.aload_n 0, 1) := by decide +kernel
theorem d_NU_beginning_2 : decode b_NU_beginning 2 = .ok (.getfield 9, 3) := by decide +kernel
theorem d_NU_beginning_5 : decode b_NU_beginning 5 = .ok (.ishl, 1) := by decide +kernel
theorem d_NU_beginning_6 : decode b_NU_beginning 6 = .ok (.ireturn, 1) := by decide +kernel
theorem d_NU_ending_0 : decode b_NU_ending 0 = .ok (.iconst 1, 1) := by decide +kernel
theorem d_NU_ending_1 : decode b_NU_ending 1 = .ok (.aload_n 0, 1) := by decide +kernel
theorem d_NU_ending_2 : decode b_NU_ending 2 = .ok (.getfield 9, 3) := by decide +kernel
theorem d_NU_ending_5 : decode b_NU_ending 5 = .ok (.ishl, 1) := by decide +kernel
theorem d_NU_ending_6 : decode b_NU_ending 6 = .ok (.iconst 1, 1) := by decide +kernel
theorem d_NU_ending_7 : decode b_NU_ending 7 = .ok (.iadd, 1) := by decide +kernel
theorem d_NU_ending_8 : decode b_NU_ending 8 = .ok (.ireturn, 1) := by decide +kernel
theorem d_NU_isIndex_0 : decode b_NU_isIndex 0 = .ok (.iload_n 1, 1) := by decide +kernel
theorem d_NU_isIndex_1 : decode b_NU_isIndex 1 = .ok (.iconst 1, 1) := by decide +kernel
theorem d_NU_isIndex_2 : decode b_NU_isIndex 2 = .ok (.aload_n 0, 1) := by decide +kernel
theorem d_NU_isIndex_3 : decode b_NU_isIndex 3 = .ok (.getfield 9, 3) := by decide +kernel
theorem d_NU_isIndex_6 : decode b_NU_isIndex 6 = .ok (.ishl, 1) := by decide +kernel
theorem d_NU_isIndex_7 : decode b_NU_isIndex 7 = .ok (.if_icmp .ge 7, 3) := by decide +kernel
theorem d_NU_isIndex_10 : decode b_NU_isIndex 10 = .ok (.iconst 1, 1) := by decide +kernel
theorem d_NU_isIndex_11 : decode b_NU_isIndex 11 = .ok (.goto 4, 3) := by decide +kernel
theorem d_NU_isIndex_14 : decode b_NU_isIndex 14 = .ok (.iconst 0, 1) := by decide +kernel
theorem d_NU_isIndex_15 : decode b_NU_isIndex 15 = .ok (.ireturn, 1) := by decide +kernel
theorem d_NU_isFull_0 : decode b_NU_isFull 0 = .ok (.aload_n 0, 1) := by decide +kernel
theorem d_NU_isFull_1 : decode b_NU_isFull 1 = .ok (.getfield 21, 3) := by decide +kernel
theorem d_NU_isFull_4 : decode b_NU_isFull 4 = .ok (.sipush 4096, 3) := by decide +kernel
theorem d_NU_isFull_7 : decode b_NU_isFull 7 = .ok (.if_icmp .lt 7, 3) := by decide +kernel
theorem d_NU_isFull_10 : decode b_NU_isFull 10 = .ok (.iconst 1, 1) := by decide +kernel
theorem d_NU_isFull_11 : decode b_NU_isFull 11 = .ok (.goto 4, 3) := by decide +kernel
theorem d_NU_isFull_14 : decode b_NU_isFull 14 = .ok (.iconst 0, 1) := by decide +kernel
theorem d_NU_isFull_15 : decode b_NU_isFull 15 = .ok (.ireturn, 1) := by decide +kernel
theorem d_NU_nextCodeMakesRow_0 : decode b_NU_nextCodeMakesRow 0 = .ok (.aload_n 0, 1) := by decide +kernel
theorem d_NU_nextCodeMakesRow_1 : decode b_NU_nextCodeMakesRow 1 = .ok (.getfield 24, 3) := by decide +kernel
theorem d_NU_nextCodeMakesRow_4 : decode b_NU_nextCodeMakesRow 4 = .ok (.ifCond .ne 14, 3) := by decide +kernel
theorem d_NU_nextCodeMakesRow_7 : decode b_NU_nextCodeMakesRow 7 = .ok (.aload_n 0, 1) := by decide +kernel
theorem d_NU_nextCodeMakesRow_8 : decode b_NU_nextCodeMakesRow 8 = .ok (.invokevirtual 28, 3) := by decide +kernel
theorem d_NU_nextCodeMakesRow_11 : decode b_NU_nextCodeMakesRow 11 = .ok (.ifCond .ne 7, 3) := by decide +kernel
theorem d_NU_nextCodeMakesRow_14 : decode b_NU_nextCodeMakesRow 14 = .ok (.iconst 1, 1) := by decide +kernel
theorem d_NU_nextCodeMakesRow_15 : decode b_NU_nextCodeMakesRow 15 = .ok (.goto 4, 3) := by decide +kernel
theorem d_NU_nextCodeMakesRow_18 : decode b_NU_nextCodeMakesRow 18 = .ok (.iconst 0, 1) := by decide +kernel
theorem d_NU_nextCodeMakesRow_19 : decode b_NU_nextCodeMakesRow 19 = .ok (.ireturn, 1) := by decide +kernel
theorem d_NU_passCode_0 : decode b_NU_passCode 0 = .ok (.aload_n 0, 1) := by decide +kernel
theorem d_NU_passCode_1 : decode b_NU_passCode 1 = .ok (.invokevirtual 32, 3) := by decide +kernel
theorem d_NU_passCode_4 : decode b_NU_passCode 4 = .ok (.ifCond .eq 45, 3) := by decide +kernel
theorem d_NU_passCode_7 : decode b_NU_passCode 7 = .ok (.aload_n 0, 1) := by decide +kernel
theorem d_NU_passCode_8 : decode b_NU_passCode 8 = .ok (.dup, 1) := by decide +kernel
theorem d_NU_passCode_9 : decode b_NU_passCode 9 = .ok (.getfield 21, 3) := by decide +kernel
theorem d_NU_passCode_12 : decode b_NU_passCode 12 = .ok (.iconst 1, 1) := by decide +kernel
theorem d_NU_passCode_13 : decode b_NU_passCode 13 = .ok (.iadd, 1) := by decide +kernel
theorem d_NU_passCode_14 : decode b_NU_passCode 14 = .ok (.putfield 21, 3) := by decide +kernel
theorem d_NU_passCode_17 : decode b_NU_passCode 17 = .ok (.aload_n 0, 1) := by decide +kernel
theorem d_NU_passCode_18 : decode b_NU_passCode 18 = .ok (.getfield 21, 3) := by decide +kernel
theorem d_NU_passCode_21 : decode b_NU_passCode 21 = .ok (.iconst 1, 1) := by decide +kernel
theorem d_NU_passCode_22 : decode b_NU_passCode 22 = .ok (.aload_n 0, 1) := by decide +kernel
theorem d_NU_passCode_23 : decode b_NU_passCode 23 = .ok (.getfield 18, 3) := by decide +kernel
theorem d_NU_passCode_26 : decode b_NU_passCode 26 = .ok (.ishl, 1) := by decide +kernel
theorem d_NU_passCode_27 : decode b_NU_passCode 27 = .ok (.if_icmp .ne 22, 3) := by decide +kernel
theorem d_NU_passCode_30 : decode b_NU_passCode 30 = .ok (.aload_n 0, 1) := by decide +kernel
theorem d_NU_passCode_31 : decode b_NU_passCode 31 = .ok (.getfield 18, 3) := by decide +kernel
theorem d_NU_passCode_34 : decode b_NU_passCode 34 = .ok (.bipush 12, 2) := by decide +kernel
theorem d_NU_passCode_36 : decode b_NU_passCode 36 = .ok (.if_icmp .ge 13, 3) := by decide +kernel
theorem d_NU_passCode_39 : decode b_NU_passCode 39 = .ok (.aload_n 0, 1) := by decide +kernel
theorem d_NU_passCode_40 : decode b_NU_passCode 40 = .ok (.dup, 1) := by decide +kernel
theorem d_NU_passCode_41 : decode b_NU_passCode 41 = .ok (.getfield 18, 3) := by decide +kernel
theorem d_NU_passCode_44 : decode b_NU_passCode 44 = .ok (.iconst 1, 1) := by decide +kernel
theorem d_NU_passCode_45 : decode b_NU_passCode 45 = .ok (.iadd, 1) := by decide +kernel
theorem d_NU_passCode_46 : decode b_NU_passCode 46 = .ok (.putfield 18, 3) := by decide +kernel
theorem d_NU_passCode_49 : decode b_NU_passCode 49 = .ok (.aload_n 0, 1) := by decide +kernel
theorem d_NU_passCode_50 : decode b_NU_passCode 50 = .ok (.iconst 0, 1) := by decide +kernel
theorem d_NU_passCode_51 : decode b_NU_passCode 51 = .ok (.putfield 24, 3) := by decide +kernel
theorem d_NU_passCode_54 : decode b_NU_passCode 54 = .ok (.return_, 1) := by decide +kernel
theorem d_PK_init_0 : decode b_PK_init 0 = .ok (.aload_n 0, 1) := by decide +kernel
theorem d_PK_init_1 : decode b_PK_init 1 = .ok (.invokespecial 3, 3) := by decide +kernel
theorem d_PK_init_4 : decode b_PK_init 4 = .ok (.aload_n 0, 1) := by decide +kernel
theorem d_PK_init_5 : decode b_PK_init 5 = .ok (.new 9, 3) := by decide +kernel
theorem d_PK_init_8 : decode b_PK_init 8 = .ok (.dup, 1) := by decide +kernel
theorem d_PK_init_9 : decode b_PK_init 9 = .ok (.invokespecial 11, 3) := by decide +kernel
theorem d_PK_init_12 : decode b_PK_init 12 = .ok (.putfield 12, 3) := by decide +kernel
theorem d_PK_init_15 : decode b_PK_init 15 = .ok (.aload_n 0, 1) := by decide +kernel
theorem d_PK_init_16 : decode b_PK_init 16 = .ok (.new 18, 3) := by decide +kernel
theorem d_PK_init_19 : decode b_PK_init 19 = .ok (.dup, 1) := by decide +kernel
theorem d_PK_init_20 : decode b_PK_init 20 = .ok (.invokespecial 20, 3) := by decide +kernel
theorem d_PK_init_23 : decode b_PK_init 23 = .ok (.putfield 21, 3) := by decide +kernel
theorem d_PK_init_26 : decode b_PK_init 26 = .ok (.aload_n 0, 1) := by decide +kernel
theorem d_PK_init_27 : decode b_PK_init 27 = .ok (.sipush 4096, 3) := by decide +kernel
theorem d_PK_init_30 : decode b_PK_init 30 = .ok (.newarray .int, 2) := by decide +kernel
theorem d_PK_init_32 : decode b_PK_init 32 = .ok (.putfield 25, 3) := by decide +kernel
theorem d_PK_init_35 : decode b_PK_init 35 = .ok (.aload_n 0, 1) := by decide +kernel
theorem d_PK_init_36 : decode b_PK_init 36 = .ok (.sipush 4096, 3) := by decide +kernel
theorem d_PK_init_39 : decode b_PK_init 39 = .ok (.newarray .int, 2) := by decide +kernel
theorem d_PK_init_41 : decode b_PK_init 41 = .ok (.putfield 29, 3) := by decide +kernel
theorem d_PK_init_44 : decode b_PK_init 44 = .ok (.aload_n 0, 1) := by decide +kernel
theorem d_PK_init_45 : decode b_PK_init 45 = .ok (.sipush 4096, 3) := by decide +kernel
theorem d_PK_init_48 : decode b_PK_init 48 = .ok (.newarray .int, 2) := by decide +kernel
theorem d_PK_init_50 : decode b_PK_init 50 = .ok (.putfield 32, 3) := by decide +kernel
theorem d_PK_init_53 : decode b_PK_init 53 = .ok (.return_, 1) := by decide +kernel
theorem d_PK_write_0 : decode b_PK_write 0 = .ok (.aload_n 0, 1) := by decide +kernel
theorem d_PK_write_1 : decode b_PK_write 1 = .ok (.getfield 12, 3) := by decide +kernel
theorem d_PK_write_4 : decode b_PK_write 4 = .ok (.iload_n 3, 1) := by decide +kernel
theorem d_PK_write_5 : decode b_PK_write 5 = .ok (.invokevirtual 35, 3) := by decide +kernel
theorem d_PK_write_8 : decode b_PK_write 8 = .ok (.aload_n 0, 1) := by decide +kernel
theorem d_PK_write_9 : decode b_PK_write 9 = .ok (.getfield 21, 3) := by decide +kernel
theorem d_PK_write_12 : decode b_PK_write 12 = .ok (.aload 4, 2) := by decide +kernel
theorem d_PK_write_14 : decode b_PK_write 14 = .ok (.invokevirtual 39, 3) := by decide +kernel
theorem d_PK_write_17 : decode b_PK_write 17 = .ok (.aload_n 0, 1) := by decide +kernel
theorem d_PK_write_18 : decode b_PK_write 18 = .ok (.invokevirtual 43, 3) := by decide +kernel
theorem d_PK_write_21 : decode b_PK_write 21 = .ok (.aload_n 1, 1) := by decide +kernel
theorem d_PK_write_22 : decode b_PK_write 22 = .ok (.iconst 0, 1) := by decide +kernel
theorem d_PK_write_23 : decode b_PK_write 23 = .ok (.baload, 1) := by decide +kernel
theorem d_PK_write_24 : decode b_PK_write 24 = .ok (.sipush 255, 3) := by decide +kernel
theorem d_PK_write_27 : decode b_PK_write 27 = .ok (.iand, 1) := by decide +kernel
theorem d_PK_write_28 : decode b_PK_write 28 = .ok (.istore 5, 2) := by decide +kernel
theorem d_PK_write_30 : decode b_PK_write 30 = .ok (.iconst 1, 1) := by decide +kernel
theorem d_PK_write_31 : decode b_PK_write 31 = .ok (.istore 6, 2) := by decide +kernel
theorem d_PK_write_33 : decode b_PK_write 33 = .ok (.iload 6, 2) := by decide +kernel
theorem d_PK_write_35 : decode b_PK_write 35 = .ok (.iload_n 2, 1) := by decide +kernel
theorem d_PK_write_36 : decode b_PK_write 36 = .ok (.if_icmp .ge 56, 3) := by decide +kernel
theorem d_PK_write_39 : decode b_PK_write 39 = .ok (.aload_n 1, 1) := by decide +kernel
theorem d_PK_write_40 : decode b_PK_write 40 = .ok (.iload 6, 2) := by decide +kernel
theorem d_PK_write_42 : decode b_PK_write 42 = .ok (.baload, 1) := by decide +kernel
theorem d_PK_write_43 : decode b_PK_write 43 = .ok (.sipush 255, 3) := by decide +kernel
theorem d_PK_write_46 : decode b_PK_write 46 = .ok (.iand, 1) := by decide +kernel
theorem d_PK_write_47 : decode b_PK_write 47 = .ok (.istore 7, 2) := by decide +kernel
theorem d_PK_write_49 : decode b_PK_write 49 = .ok (.aload_n 0, 1) := by decide +kernel
theorem d_PK_write_50 : decode b_PK_write 50 = .ok (.iload 5, 2) := by decide +kernel
theorem d_PK_write_52 : decode b_PK_write 52 = .ok (.iload 7, 2) := by decide +kernel
theorem d_PK_write_54 : decode b_PK_write 54 = .ok (.invokevirtual 46, 3) := by decide +kernel
theorem d_PK_write_57 : decode b_PK_write 57 = .ok (.istore 8, 2) := by decide +kernel
theorem d_PK_write_59 : decode b_PK_write 59 = .ok (.iload 8, 2) := by decide +kernel
theorem d_PK_write_61 : decode b_PK_write 61 = .ok (.ifCond .ne 21, 3) := by decide +kernel
theorem d_PK_write_64 : decode b_PK_write 64 = .ok (.aload_n 0, 1) := by decide +kernel
theorem d_PK_write_65 : decode b_PK_write 65 = .ok (.iload 5, 2) := by decide +kernel
theorem d_PK_write_67 : decode b_PK_write 67 = .ok (.invokevirtual 50, 3) := by decide +kernel
theorem d_PK_write_70 : decode b_PK_write 70 = .ok (.aload_n 0, 1) := by decide +kernel
theorem d_PK_write_71 : decode b_PK_write 71 = .ok (.iload 5, 2) := by decide +kernel
theorem d_PK_write_73 : decode b_PK_write 73 = .ok (.iload 7, 2) := by decide +kernel
theorem d_PK_write_75 : decode b_PK_write 75 = .ok (.invokevirtual 53, 3) := by decide +kernel
theorem d_PK_write_78 : decode b_PK_write 78 = .ok (.iload 7, 2) := by decide +kernel
theorem d_PK_write_80 : decode b_PK_write 80 = .ok (.istore 8, 2) := by decide +kernel
theorem d_PK_write_82 : decode b_PK_write 82 = .ok (.iload 8, 2) := by decide +kernel
theorem d_PK_write_84 : decode b_PK_write 84 = .ok (.istore 5, 2) := by decide +kernel
theorem d_PK_write_86 : decode b_PK_write 86 = .ok (.iinc 6 1, 3) := by decide +kernel
theorem d_PK_write_89 : decode b_PK_write 89 = .ok (.goto (-56), 3) := by decide +kernel
theorem d_PK_write_92 : decode b_PK_write 92 = .ok (.aload_n 0, 1) := by decide +kernel
theorem d_PK_write_93 : decode b_PK_write 93 = .ok (.iload 5, 2) := by decide +kernel
theorem d_PK_write_95 : decode b_PK_write 95 = .ok (.invokevirtual 50, 3) := by decide +kernel
theorem d_PK_write_98 : decode b_PK_write 98 = .ok (.aload_n 0, 1) := by decide +kernel
theorem d_PK_write_99 : decode b_PK_write 99 = .ok (.getfield 21, 3) := by decide +kernel
theorem d_PK_write_102 : decode b_PK_write 102 = .ok (.aload_n 0, 1) := by decide +kernel
theorem d_PK_write_103 : decode b_PK_write 103 = .ok (.getfield 12, 3) := by decide +kernel
theorem d_PK_write_106 : decode b_PK_write 106 = .ok (.invokevirtual 57, 3) := by decide +kernel
theorem d_PK_write_109 : decode b_PK_write 109 = .ok (.aload_n 0, 1) := by decide +kernel
theorem d_PK_write_110 : decode b_PK_write 110 = .ok (.getfield 12, 3) := by decide +kernel
theorem d_PK_write_113 : decode b_PK_write 113 = .ok (.getfield 61, 3) := by decide +kernel
theorem d_PK_write_116 : decode b_PK_write 116 = .ok (.invokevirtual 65, 3) := by decide +kernel
theorem d_PK_write_119 : decode b_PK_write 119 = .ok (.aload_n 0, 1) := by decide +kernel
theorem d_PK_write_120 : decode b_PK_write 120 = .ok (.getfield 21, 3) := by decide +kernel
theorem d_PK_write_123 : decode b_PK_write 123 = .ok (.invokevirtual 68, 3) := by decide +kernel
theorem d_PK_write_126 : decode b_PK_write 126 = .ok (.ireturn, 1) := by decide +kernel
theorem d_PK_writeBeginning_0 : decode b_PK_writeBeginning 0 = .ok (.aload_n 0, 1) := by decide +kernel
theorem d_PK_writeBeginning_1 : decode b_PK_writeBeginning 1 = .ok (.getfield 21, 3) := by decide +kernel
theorem d_PK_writeBeginning_4 : decode b_PK_writeBeginning 4 = .ok (.aload_n 0, 1) := by decide +kernel
theorem d_PK_writeBeginning_5 : decode b_PK_writeBeginning 5 = .ok (.getfield 12, 3) := by decide +kernel
theorem d_PK_writeBeginning_8 : decode b_PK_writeBeginning 8 = .ok (.invokevirtual 71, 3) := by decide +kernel
theorem d_PK_writeBeginning_11 : decode b_PK_writeBeginning 11 = .ok (.aload_n 0, 1) := by decide +kernel
theorem d_PK_writeBeginning_12 : decode b_PK_writeBeginning 12 = .ok (.getfield 12, 3) := by decide +kernel
theorem d_PK_writeBeginning_15 : decode b_PK_writeBeginning 15 = .ok (.getfield 61, 3) := by decide +kernel
theorem d_PK_writeBeginning_18 : decode b_PK_writeBeginning 18 = .ok (.invokevirtual 65, 3) := by decide +kernel
theorem d_PK_writeBeginning_21 : decode b_PK_writeBeginning 21 = .ok (.aload_n 0, 1) := by decide +kernel
theorem d_PK_writeBeginning_22 : decode b_PK_writeBeginning 22 = .ok (.getfield 12, 3) := by decide +kernel
theorem d_PK_writeBeginning_25 : decode b_PK_writeBeginning 25 = .ok (.invokevirtual 74, 3) := by decide +kernel
theorem d_PK_writeBeginning_28 : decode b_PK_writeBeginning 28 = .ok (.aload_n 0, 1) := by decide +kernel
theorem d_PK_writeBeginning_29 : decode b_PK_writeBeginning 29 = .ok (.getfield 25, 3) := by decide +kernel
theorem d_PK_writeBeginning_32 : decode b_PK_writeBeginning 32 = .ok (.iconst 0, 1) := by decide +kernel
theorem d_PK_writeBeginning_33 : decode b_PK_writeBeginning 33 = .ok (.aload_n 0, 1) := by decide +kernel
theorem d_PK_writeBeginning_34 : decode b_PK_writeBeginning 34 = .ok (.getfield 12, 3) := by decide +kernel
theorem d_PK_writeBeginning_37 : decode b_PK_writeBeginning 37 = .ok (.invokevirtual 71, 3) := by decide +kernel
theorem d_PK_writeBeginning_40 : decode b_PK_writeBeginning 40 = .ok (.iconst 0, 1) := by decide +kernel
theorem d_PK_writeBeginning_41 : decode b_PK_writeBeginning 41 = .ok (.invokestatic 77, 3) := by decide +kernel
theorem d_PK_writeBeginning_44 : decode b_PK_writeBeginning 44 = .ok (.return_, 1) := by decide +kernel
theorem d_PK_writeRow_0 : decode b_PK_writeRow 0 = .ok (.aload_n 0, 1) := by decide +kernel
theorem d_PK_writeRow_1 : decode b_PK_writeRow 1 = .ok (.getfield 21, 3) := by decide +kernel
theorem d_PK_writeRow_4 : decode b_PK_writeRow 4 = .ok (.iload_n 1, 1) := by decide +kernel
theorem d_PK_writeRow_5 : decode b_PK_writeRow 5 = .ok (.aload_n 0, 1) := by decide +kernel
theorem d_PK_writeRow_6 : decode b_PK_writeRow 6 = .ok (.getfield 12, 3) := by decide +kernel
theorem d_PK_writeRow_9 : decode b_PK_writeRow 9 = .ok (.getfield 61, 3) := by decide +kernel
theorem d_PK_writeRow_12 : decode b_PK_writeRow 12 = .ok (.invokevirtual 65, 3) := by decide +kernel
theorem d_PK_writeRow_15 : decode b_PK_writeRow 15 = .ok (.aload_n 0, 1) := by decide +kernel
theorem d_PK_writeRow_16 : decode b_PK_writeRow 16 = .ok (.getfield 12, 3) := by decide +kernel
theorem d_PK_writeRow_19 : decode b_PK_writeRow 19 = .ok (.invokevirtual 83, 3) := by decide +kernel
theorem d_PK_writeRow_22 : decode b_PK_writeRow 22 = .ok (.aload_n 0, 1) := by decide +kernel
theorem d_PK_writeRow_23 : decode b_PK_writeRow 23 = .ok (.getfield 12, 3) := by decide +kernel
theorem d_PK_writeRow_26 : decode b_PK_writeRow 26 = .ok (.invokevirtual 86, 3) := by decide +kernel
theorem d_PK_writeRow_29 : decode b_PK_writeRow 29 = .ok (.ifCond .eq 7, 3) := by decide +kernel
theorem d_PK_writeRow_32 : decode b_PK_writeRow 32 = .ok (.aload_n 0, 1) := by decide +kernel
theorem d_PK_writeRow_33 : decode b_PK_writeRow 33 = .ok (.invokevirtual 43, 3) := by decide +kernel
theorem d_PK_writeRow_36 : decode b_PK_writeRow 36 = .ok (.return_, 1) := by decide +kernel
theorem d_PK_childOf_0 : decode b_PK_childOf 0 = .ok (.aload_n 0, 1) := by decide +kernel
theorem d_PK_childOf_1 : decode b_PK_childOf 1 = .ok (.getfield 25, 3) := by decide +kernel
theorem d_PK_childOf_4 : decode b_PK_childOf 4 = .ok (.iload_n 1, 1) := by decide +kernel
theorem d_PK_childOf_5 : decode b_PK_childOf 5 = .ok (.iaload, 1) := by decide +kernel
theorem d_PK_childOf_6 : decode b_PK_childOf 6 = .ok (.istore_n 3, 1) := by decide +kernel
theorem d_PK_childOf_7 : decode b_PK_childOf 7 = .ok (.iconst 0, 1) := by decide +kernel
theorem d_PK_childOf_8 : decode b_PK_childOf 8 = .ok (.istore 4, 2) := by decide +kernel
theorem d_PK_childOf_10 : decode b_PK_childOf 10 = .ok (.iload 4, 2) := by decide +kernel
theorem d_PK_childOf_12 : decode b_PK_childOf 12 = .ok (.sipush 4096, 3) := by decide +kernel
theorem d_PK_childOf_15 : decode b_PK_childOf 15 = .ok (.if_icmp .ge 32, 3) := by decide +kernel
theorem d_PK_childOf_18 : decode b_PK_childOf 18 = .ok (.iload_n 3, 1) := by decide +kernel
theorem d_PK_childOf_19 : decode b_PK_childOf 19 = .ok (.ifCond .eq 28, 3) := by decide +kernel
theorem d_PK_childOf_22 : decode b_PK_childOf 22 = .ok (.aload_n 0, 1) := by decide +kernel
theorem d_PK_childOf_23 : decode b_PK_childOf 23 = .ok (.getfield 32, 3) := by decide +kernel
theorem d_PK_childOf_26 : decode b_PK_childOf 26 = .ok (.iload_n 3, 1) := by decide +kernel
theorem d_PK_childOf_27 : decode b_PK_childOf 27 = .ok (.iaload, 1) := by decide +kernel
theorem d_PK_childOf_28 : decode b_PK_childOf 28 = .ok (.iload_n 2, 1) := by decide +kernel
theorem d_PK_childOf_29 : decode b_PK_childOf 29 = .ok (.if_icmp .ne 5, 3) := by decide +kernel
theorem d_PK_childOf_32 : decode b_PK_childOf 32 = .ok (.iload_n 3, 1) := by decide +kernel
theorem d_PK_childOf_33 : decode b_PK_childOf 33 = .ok (.ireturn, 1) := by decide +kernel
theorem d_PK_childOf_34 : decode b_PK_childOf 34 = .ok (.aload_n 0, 1) := by decide +kernel
theorem d_PK_childOf_35 : decode b_PK_childOf 35 = .ok (.getfield 29, 3) := by decide +kernel
theorem d_PK_childOf_38 : decode b_PK_childOf 38 = .ok (.iload_n 3, 1) := by decide +kernel
theorem d_PK_childOf_39 : decode b_PK_childOf 39 = .ok (.iaload, 1) := by decide +kernel
theorem d_PK_childOf_40 : decode b_PK_childOf 40 = .ok (.istore_n 3, 1) := by decide +kernel
theorem d_PK_childOf_41 : decode b_PK_childOf 41 = .ok (.iinc 4 1, 3) := by decide +kernel
theorem d_PK_childOf_44 : decode b_PK_childOf 44 = .ok (.goto (-34), 3) := by decide +kernel
theorem d_PK_childOf_47 : decode b_PK_childOf 47 = .ok (.iconst 0, 1) := by decide +kernel
theorem d_PK_childOf_48 : decode b_PK_childOf 48 = .ok (.ireturn, 1) := by decide +kernel
theorem d_PK_addChild_0 : decode b_PK_addChild 0 = .ok (.aload_n 0, 1) := by decide +kernel
theorem d_PK_addChild_1 : decode b_PK_addChild 1 = .ok (.getfield 12, 3) := by decide +kernel
theorem d_PK_addChild_4 : decode b_PK_addChild 4 = .ok (.invokevirtual 90, 3) := by decide +kernel
theorem d_PK_addChild_7 : decode b_PK_addChild 7 = .ok (.ifCond .ne 4, 3) := by decide +kernel
theorem d_PK_addChild_10 : decode b_PK_addChild 10 = .ok (.return_, 1) := by decide +kernel
theorem d_PK_addChild_11 : decode b_PK_addChild 11 = .ok (.aload_n 0, 1) := by decide +kernel
theorem d_PK_addChild_12 : decode b_PK_addChild 12 = .ok (.getfield 12, 3) := by decide +kernel
theorem d_PK_addChild_15 : decode b_PK_addChild 15 = .ok (.getfield 93, 3) := by decide +kernel
theorem d_PK_addChild_18 : decode b_PK_addChild 18 = .ok (.istore_n 3, 1) := by decide +kernel
theorem d_PK_addChild_19 : decode b_PK_addChild 19 = .ok (.aload_n 0, 1) := by decide +kernel
theorem d_PK_addChild_20 : decode b_PK_addChild 20 = .ok (.getfield 32, 3) := by decide +kernel
theorem d_PK_addChild_23 : decode b_PK_addChild 23 = .ok (.iload_n 3, 1) := by decide +kernel
theorem d_PK_addChild_24 : decode b_PK_addChild 24 = .ok (.iload_n 2, 1) := by decide +kernel
theorem d_PK_addChild_25 : decode b_PK_addChild 25 = .ok (.iastore, 1) := by decide +kernel
theorem d_PK_addChild_26 : decode b_PK_addChild 26 = .ok (.aload_n 0, 1) := by decide +kernel
theorem d_PK_addChild_27 : decode b_PK_addChild 27 = .ok (.getfield 25, 3) := by decide +kernel
theorem d_PK_addChild_30 : decode b_PK_addChild 30 = .ok (.iload_n 3, 1) := by decide +kernel
theorem d_PK_addChild_31 : decode b_PK_addChild 31 = .ok (.iconst 0, 1) := by decide +kernel
theorem d_PK_addChild_32 : decode b_PK_addChild 32 = .ok (.iastore, 1) := by decide +kernel
theorem d_PK_addChild_33 : decode b_PK_addChild 33 = .ok (.aload_n 0, 1) := by decide +kernel
theorem d_PK_addChild_34 : decode b_PK_addChild 34 = .ok (.getfield 29, 3) := by decide +kernel
theorem d_PK_addChild_37 : decode b_PK_addChild 37 = .ok (.iload_n 3, 1) := by decide +kernel
theorem d_PK_addChild_38 : decode b_PK_addChild 38 = .ok (.aload_n 0, 1) := by decide +kernel
theorem d_PK_addChild_39 : decode b_PK_addChild 39 = .ok (.getfield 25, 3) := by decide +kernel
theorem d_PK_addChild_42 : decode b_PK_addChild 42 = .ok (.iload_n 1, 1) := by decide +kernel
theorem d_PK_addChild_43 : decode b_PK_addChild 43 = .ok (.iaload, 1) := by decide +kernel
theorem d_PK_addChild_44 : decode b_PK_addChild 44 = .ok (.iastore, 1) := by decide +kernel
theorem d_PK_addChild_45 : decode b_PK_addChild 45 = .ok (.aload_n 0, 1) := by decide +kernel
theorem d_PK_addChild_46 : decode b_PK_addChild 46 = .ok (.getfield 25, 3) := by decide +kernel
theorem d_PK_addChild_49 : decode b_PK_addChild 49 = .ok (.iload_n 1, 1) := by decide +kernel
theorem d_PK_addChild_50 : decode b_PK_addChild 50 = .ok (.iload_n 3, 1) := by decide +kernel
theorem d_PK_addChild_51 : decode b_PK_addChild 51 = .ok (.iastore, 1) := by decide +kernel
theorem d_PK_addChild_52 : decode b_PK_addChild 52 = .ok (.return_, 1) := by decide +kernel
theorem d_UN_init_0 : decode b_UN_init 0 = .ok (.aload_n 0, 1) := by decide +kernel
theorem d_UN_init_1 : decode b_UN_init 1 = .ok (.invokespecial 3, 3) := by decide +kernel
theorem d_UN_init_4 : decode b_UN_init 4 = .ok (.aload_n 0, 1) := by decide +kernel
theorem d_UN_init_5 : decode b_UN_init 5 = .ok (.new 9, 3) := by decide +kernel
theorem d_UN_init_8 : decode b_UN_init 8 = .ok (.dup, 1) := by decide +kernel
theorem d_UN_init_9 : decode b_UN_init 9 = .ok (.invokespecial 11, 3) := by decide +kernel
theorem d_UN_init_12 : decode b_UN_init 12 = .ok (.putfield 12, 3) := by decide +kernel
theorem d_UN_init_15 : decode b_UN_init 15 = .ok (.aload_n 0, 1) := by decide +kernel
theorem d_UN_init_16 : decode b_UN_init 16 = .ok (.sipush 4096, 3) := by decide +kernel
theorem d_UN_init_19 : decode b_UN_init 19 = .ok (.newarray .int, 2) := by decide +kernel
theorem d_UN_init_21 : decode b_UN_init 21 = .ok (.putfield 18, 3) := by decide +kernel
theorem d_UN_init_24 : decode b_UN_init 24 = .ok (.aload_n 0, 1) := by decide +kernel
theorem d_UN_init_25 : decode b_UN_init 25 = .ok (.sipush 4096, 3) := by decide +kernel
theorem d_UN_init_28 : decode b_UN_init 28 = .ok (.newarray .int, 2) := by decide +kernel
theorem d_UN_init_30 : decode b_UN_init 30 = .ok (.putfield 22, 3) := by decide +kernel
theorem d_UN_init_33 : decode b_UN_init 33 = .ok (.aload_n 0, 1) := by decide +kernel
theorem d_UN_init_34 : decode b_UN_init 34 = .ok (.iconst 0, 1) := by decide +kernel
theorem d_UN_init_35 : decode b_UN_init 35 = .ok (.newarray .byte, 2) := by decide +kernel
theorem d_UN_init_37 : decode b_UN_init 37 = .ok (.putfield 25, 3) := by decide +kernel
theorem d_UN_init_40 : decode b_UN_init 40 = .ok (.aload_n 0, 1) := by decide +kernel
theorem d_UN_init_41 : decode b_UN_init 41 = .ok (.iconst 0, 1) := by decide +kernel
theorem d_UN_init_42 : decode b_UN_init 42 = .ok (.putfield 29, 3) := by decide +kernel
theorem d_UN_init_45 : decode b_UN_init 45 = .ok (.aload_n 0, 1) := by decide +kernel
theorem d_UN_init_46 : decode b_UN_init 46 = .ok (.iconst 0, 1) := by decide +kernel
theorem d_UN_init_47 : decode b_UN_init 47 = .ok (.putfield 33, 3) := by decide +kernel
theorem d_UN_init_50 : decode b_UN_init 50 = .ok (.aload_n 0, 1) := by decide +kernel
theorem d_UN_init_51 : decode b_UN_init 51 = .ok (.iconst 0, 1) := by decide +kernel
theorem d_UN_init_52 : decode b_UN_init 52 = .ok (.putfield 36, 3) := by decide +kernel
theorem d_UN_init_55 : decode b_UN_init 55 = .ok (.return_, 1) := by decide +kernel
theorem d_UN_read_0 : decode b_UN_read 0 = .ok (.aload_n 0, 1) := by decide +kernel
theorem d_UN_read_1 : decode b_UN_read 1 = .ok (.getfield 12, 3) := by decide +kernel
theorem d_UN_read_4 : decode b_UN_read 4 = .ok (.iload_n 3, 1) := by decide +kernel
theorem d_UN_read_5 : decode b_UN_read 5 = .ok (.invokevirtual 39, 3) := by decide +kernel
theorem d_UN_read_8 : decode b_UN_read 8 = .ok (.aload_n 0, 1) := by decide +kernel
theorem d_UN_read_9 : decode b_UN_read 9 = .ok (.aload 4, 2) := by decide +kernel
theorem d_UN_read_11 : decode b_UN_read 11 = .ok (.putfield 25, 3) := by decide +kernel
theorem d_UN_read_14 : decode b_UN_read 14 = .ok (.aload_n 0, 1) := by decide +kernel
theorem d_UN_read_15 : decode b_UN_read 15 = .ok (.iconst 0, 1) := by decide +kernel
theorem d_UN_read_16 : decode b_UN_read 16 = .ok (.putfield 29, 3) := by decide +kernel
theorem d_UN_read_19 : decode b_UN_read 19 = .ok (.bipush 8, 2) := by decide +kernel
theorem d_UN_read_21 : decode b_UN_read 21 = .ok (.iload_n 2, 1) := by decide +kernel
theorem d_UN_read_22 : decode b_UN_read 22 = .ok (.imul, 1) := by decide +kernel
theorem d_UN_read_23 : decode b_UN_read 23 = .ok (.istore 5, 2) := by decide +kernel
theorem d_UN_read_25 : decode b_UN_read 25 = .ok (.iconst 0, 1) := by decide +kernel
theorem d_UN_read_26 : decode b_UN_read 26 = .ok (.istore 6, 2) := by decide +kernel
theorem d_UN_read_28 : decode b_UN_read 28 = .ok (.iconst 0, 1) := by decide +kernel
theorem d_UN_read_29 : decode b_UN_read 29 = .ok (.istore 7, 2) := by decide +kernel
theorem d_UN_read_31 : decode b_UN_read 31 = .ok (.iload 7, 2) := by decide +kernel
theorem d_UN_read_33 : decode b_UN_read 33 = .ok (.iload 5, 2) := by decide +kernel
theorem d_UN_read_35 : decode b_UN_read 35 = .ok (.if_icmp .ge 97, 3) := by decide +kernel
theorem d_UN_read_38 : decode b_UN_read 38 = .ok (.iload 6, 2) := by decide +kernel
theorem d_UN_read_40 : decode b_UN_read 40 = .ok (.aload_n 0, 1) := by decide +kernel
theorem d_UN_read_41 : decode b_UN_read 41 = .ok (.getfield 12, 3) := by decide +kernel
theorem d_UN_read_44 : decode b_UN_read 44 = .ok (.getfield 43, 3) := by decide +kernel
theorem d_UN_read_47 : decode b_UN_read 47 = .ok (.iadd, 1) := by decide +kernel
theorem d_UN_read_48 : decode b_UN_read 48 = .ok (.iload 5, 2) := by decide +kernel
theorem d_UN_read_50 : decode b_UN_read 50 = .ok (.if_icmp .gt 82, 3) := by decide +kernel
theorem d_UN_read_53 : decode b_UN_read 53 = .ok (.aload_n 1, 1) := by decide +kernel
theorem d_UN_read_54 : decode b_UN_read 54 = .ok (.iload_n 2, 1) := by decide +kernel
theorem d_UN_read_55 : decode b_UN_read 55 = .ok (.iload 6, 2) := by decide +kernel
theorem d_UN_read_57 : decode b_UN_read 57 = .ok (.aload_n 0, 1) := by decide +kernel
theorem d_UN_read_58 : decode b_UN_read 58 = .ok (.getfield 12, 3) := by decide +kernel
theorem d_UN_read_61 : decode b_UN_read 61 = .ok (.getfield 43, 3) := by decide +kernel
theorem d_UN_read_64 : decode b_UN_read 64 = .ok (.invokestatic 46, 3) := by decide +kernel
theorem d_UN_read_67 : decode b_UN_read 67 = .ok (.istore 8, 2) := by decide +kernel
theorem d_UN_read_69 : decode b_UN_read 69 = .ok (.iload 6, 2) := by decide +kernel
theorem d_UN_read_71 : decode b_UN_read 71 = .ok (.aload_n 0, 1) := by decide +kernel
theorem d_UN_read_72 : decode b_UN_read 72 = .ok (.getfield 12, 3) := by decide +kernel
theorem d_UN_read_75 : decode b_UN_read 75 = .ok (.getfield 43, 3) := by decide +kernel
theorem d_UN_read_78 : decode b_UN_read 78 = .ok (.iadd, 1) := by decide +kernel
theorem d_UN_read_79 : decode b_UN_read 79 = .ok (.istore 6, 2) := by decide +kernel
theorem d_UN_read_81 : decode b_UN_read 81 = .ok (.iload 8, 2) := by decide +kernel
theorem d_UN_read_83 : decode b_UN_read 83 = .ok (.aload_n 0, 1) := by decide +kernel
theorem d_UN_read_84 : decode b_UN_read 84 = .ok (.getfield 12, 3) := by decide +kernel
theorem d_UN_read_87 : decode b_UN_read 87 = .ok (.invokevirtual 50, 3) := by decide +kernel
theorem d_UN_read_90 : decode b_UN_read 90 = .ok (.if_icmp .ne 8, 3) := by decide +kernel
theorem d_UN_read_93 : decode b_UN_read 93 = .ok (.aload_n 0, 1) := by decide +kernel
theorem d_UN_read_94 : decode b_UN_read 94 = .ok (.getfield 29, 3) := by decide +kernel
theorem d_UN_read_97 : decode b_UN_read 97 = .ok (.ireturn, 1) := by decide +kernel
theorem d_UN_read_98 : decode b_UN_read 98 = .ok (.iload 8, 2) := by decide +kernel
theorem d_UN_read_100 : decode b_UN_read 100 = .ok (.aload_n 0, 1) := by decide +kernel
theorem d_UN_read_101 : decode b_UN_read 101 = .ok (.getfield 12, 3) := by decide +kernel
theorem d_UN_read_104 : decode b_UN_read 104 = .ok (.invokevirtual 54, 3) := by decide +kernel
theorem d_UN_read_107 : decode b_UN_read 107 = .ok (.if_icmp .ne 13, 3) := by decide +kernel
theorem d_UN_read_110 : decode b_UN_read 110 = .ok (.aload_n 0, 1) := by decide +kernel
theorem d_UN_read_111 : decode b_UN_read 111 = .ok (.getfield 12, 3) := by decide +kernel
theorem d_UN_read_114 : decode b_UN_read 114 = .ok (.invokevirtual 57, 3) := by decide +kernel
theorem d_UN_read_117 : decode b_UN_read 117 = .ok (.goto 9, 3) := by decide +kernel
theorem d_UN_read_120 : decode b_UN_read 120 = .ok (.aload_n 0, 1) := by decide +kernel
theorem d_UN_read_121 : decode b_UN_read 121 = .ok (.iload 8, 2) := by decide +kernel
theorem d_UN_read_123 : decode b_UN_read 123 = .ok (.invokevirtual 60, 3) := by decide +kernel
theorem d_UN_read_126 : decode b_UN_read 126 = .ok (.iinc 7 1, 3) := by decide +kernel
theorem d_UN_read_129 : decode b_UN_read 129 = .ok (.goto (-98), 3) := by decide +kernel
theorem d_UN_read_132 : decode b_UN_read 132 = .ok (.new 63, 3) := by decide +kernel
theorem d_UN_read_135 : decode b_UN_read 135 = .ok (.dup, 1) := by decide +kernel
theorem d_UN_read_136 : decode b_UN_read 136 = .ok (.ldc 65, 2) := by decide +kernel
theorem d_UN_read_138 : decode b_UN_read 138 = .ok (.invokespecial 67, 3) := by decide +kernel
theorem d_UN_read_141 : decode b_UN_read 141 = .ok (.athrow, 1) := by decide +kernel
theorem d_UN_codeAt_0 : decode b_UN_codeAt 0 = .ok (.iconst 0, 1) := by decide +kernel
theorem d_UN_codeAt_1 : decode b_UN_codeAt 1 = .ok (.istore 4, 2) := by decide +kernel
theorem d_UN_codeAt_3 : decode b_UN_codeAt 3 = .ok (.iload_n 2, 1) := by decide +kernel
theorem d_UN_codeAt_4 : decode b_UN_codeAt 4 = .ok (.iconst 3, 1) := by decide +kernel
theorem d_UN_codeAt_5 : decode b_UN_codeAt 5 = .ok (.ishr, 1) := by decide +kernel
theorem d_UN_codeAt_6 : decode b_UN_codeAt 6 = .ok (.istore 5, 2) := by decide +kernel
theorem d_UN_codeAt_8 : decode b_UN_codeAt 8 = .ok (.iconst 0, 1) := by decide +kernel
theorem d_UN_codeAt_9 : decode b_UN_codeAt 9 = .ok (.istore 6, 2) := by decide +kernel
theorem d_UN_codeAt_11 : decode b_UN_codeAt 11 = .ok (.iload 6, 2) := by decide +kernel
theorem d_UN_codeAt_13 : decode b_UN_codeAt 13 = .ok (.iconst 3, 1) := by decide +kernel
theorem d_UN_codeAt_14 : decode b_UN_codeAt 14 = .ok (.if_icmp .ge 40, 3) := by decide +kernel
theorem d_UN_codeAt_17 : decode b_UN_codeAt 17 = .ok (.iload 5, 2) := by decide +kernel
theorem d_UN_codeAt_19 : decode b_UN_codeAt 19 = .ok (.iload 6, 2) := by decide +kernel
theorem d_UN_codeAt_21 : decode b_UN_codeAt 21 = .ok (.iadd, 1) := by decide +kernel
theorem d_UN_codeAt_22 : decode b_UN_codeAt 22 = .ok (.iload_n 1, 1) := by decide +kernel
theorem d_UN_codeAt_23 : decode b_UN_codeAt 23 = .ok (.if_icmp .ge 31, 3) := by decide +kernel
theorem d_UN_codeAt_26 : decode b_UN_codeAt 26 = .ok (.iload 4, 2) := by decide +kernel
theorem d_UN_codeAt_28 : decode b_UN_codeAt 28 = .ok (.aload_n 0, 1) := by decide +kernel
theorem d_UN_codeAt_29 : decode b_UN_codeAt 29 = .ok (.iload 5, 2) := by decide +kernel
theorem d_UN_codeAt_31 : decode b_UN_codeAt 31 = .ok (.iload 6, 2) := by decide +kernel
theorem d_UN_codeAt_33 : decode b_UN_codeAt 33 = .ok (.iadd, 1) := by decide +kernel
theorem d_UN_codeAt_34 : decode b_UN_codeAt 34 = .ok (.baload, 1) := by decide +kernel
theorem d_UN_codeAt_35 : decode b_UN_codeAt 35 = .ok (.sipush 255, 3) := by decide +kernel
theorem d_UN_codeAt_38 : decode b_UN_codeAt 38 = .ok (.iand, 1) := by decide +kernel
theorem d_UN_codeAt_39 : decode b_UN_codeAt 39 = .ok (.bipush 8, 2) := by decide +kernel
theorem d_UN_codeAt_41 : decode b_UN_codeAt 41 = .ok (.iload 6, 2) := by decide +kernel
theorem d_UN_codeAt_43 : decode b_UN_codeAt 43 = .ok (.imul, 1) := by decide +kernel
theorem d_UN_codeAt_44 : decode b_UN_codeAt 44 = .ok (.ishl, 1) := by decide +kernel
theorem d_UN_codeAt_45 : decode b_UN_codeAt 45 = .ok (.ior, 1) := by decide +kernel
theorem d_UN_codeAt_46 : decode b_UN_codeAt 46 = .ok (.istore 4, 2) := by decide +kernel
theorem d_UN_codeAt_48 : decode b_UN_codeAt 48 = .ok (.iinc 6 1, 3) := by decide +kernel
theorem d_UN_codeAt_51 : decode b_UN_codeAt 51 = .ok (.goto (-40), 3) := by decide +kernel
theorem d_UN_codeAt_54 : decode b_UN_codeAt 54 = .ok (.iload 4, 2) := by decide +kernel
theorem d_UN_codeAt_56 : decode b_UN_codeAt 56 = .ok (.iload_n 2, 1) := by decide +kernel
theorem d_UN_codeAt_57 : decode b_UN_codeAt 57 = .ok (.bipush 7, 2) := by decide +kernel
theorem d_UN_codeAt_59 : decode b_UN_codeAt 59 = .ok (.iand, 1) := by decide +kernel
theorem d_UN_codeAt_60 : decode b_UN_codeAt 60 = .ok (.ishr, 1) := by decide +kernel
theorem d_UN_codeAt_61 : decode b_UN_codeAt 61 = .ok (.iconst 1, 1) := by decide +kernel
theorem d_UN_codeAt_62 : decode b_UN_codeAt 62 = .ok (.iload_n 3, 1) := by decide +kernel
theorem d_UN_codeAt_63 : decode b_UN_codeAt 63 = .ok (.ishl, 1) := by decide +kernel
theorem d_UN_codeAt_64 : decode b_UN_codeAt 64 = .ok (.iconst 1, 1) := by decide +kernel
theorem d_UN_codeAt_65 : decode b_UN_codeAt 65 = .ok (.isub, 1) := by decide +kernel
theorem d_UN_codeAt_66 : decode b_UN_codeAt 66 = .ok (.iand, 1) := by decide +kernel
theorem d_UN_codeAt_67 : decode b_UN_codeAt 67 = .ok (.ireturn, 1) := by decide +kernel
theorem d_UN_takeCode_0 : decode b_UN_takeCode 0 = .ok (.aload_n 0, 1) := by decide +kernel
theorem d_UN_takeCode_1 : decode b_UN_takeCode 1 = .ok (.getfield 12, 3) := by decide +kernel
theorem d_UN_takeCode_4 : decode b_UN_takeCode 4 = .ok (.getfield 70, 3) := by decide +kernel
theorem d_UN_takeCode_7 : decode b_UN_takeCode 7 = .ok (.istore_n 2, 1) := by decide +kernel
theorem d_UN_takeCode_8 : decode b_UN_takeCode 8 = .ok (.aload_n 0, 1) := by decide +kernel
theorem d_UN_takeCode_9 : decode b_UN_takeCode 9 = .ok (.getfield 12, 3) := by decide +kernel
theorem d_UN_takeCode_12 : decode b_UN_takeCode 12 = .ok (.invokevirtual 73, 3) := by decide +kernel
theorem d_UN_takeCode_15 : decode b_UN_takeCode 15 = .ok (.ifCond .eq 28, 3) := by decide +kernel
theorem d_UN_takeCode_18 : decode b_UN_takeCode 18 = .ok (.aload_n 0, 1) := by decide +kernel
theorem d_UN_takeCode_19 : decode b_UN_takeCode 19 = .ok (.getfield 18, 3) := by decide +kernel
theorem d_UN_takeCode_22 : decode b_UN_takeCode 22 = .ok (.iload_n 2, 1) := by decide +kernel
theorem d_UN_takeCode_23 : decode b_UN_takeCode 23 = .ok (.aload_n 0, 1) := by decide +kernel
theorem d_UN_takeCode_24 : decode b_UN_takeCode 24 = .ok (.getfield 33, 3) := by decide +kernel
theorem d_UN_takeCode_27 : decode b_UN_takeCode 27 = .ok (.iastore, 1) := by decide +kernel
theorem d_UN_takeCode_28 : decode b_UN_takeCode 28 = .ok (.aload_n 0, 1) := by decide +kernel
theorem d_UN_takeCode_29 : decode b_UN_takeCode 29 = .ok (.getfield 22, 3) := by decide +kernel
theorem d_UN_takeCode_32 : decode b_UN_takeCode 32 = .ok (.iload_n 2, 1) := by decide +kernel
theorem d_UN_takeCode_33 : decode b_UN_takeCode 33 = .ok (.aload_n 0, 1) := by decide +kernel
theorem d_UN_takeCode_34 : decode b_UN_takeCode 34 = .ok (.getfield 36, 3) := by decide +kernel
theorem d_UN_takeCode_37 : decode b_UN_takeCode 37 = .ok (.iconst 1, 1) := by decide +kernel
theorem d_UN_takeCode_38 : decode b_UN_takeCode 38 = .ok (.iadd, 1) := by decide +kernel
theorem d_UN_takeCode_39 : decode b_UN_takeCode 39 = .ok (.iastore, 1) := by decide +kernel
theorem d_UN_takeCode_40 : decode b_UN_takeCode 40 = .ok (.iinc 2 1, 3) := by decide +kernel
theorem d_UN_takeCode_43 : decode b_UN_takeCode 43 = .ok (.iload_n 1, 1) := by decide +kernel
theorem d_UN_takeCode_44 : decode b_UN_takeCode 44 = .ok (.iload_n 2, 1) := by decide +kernel
theorem d_UN_takeCode_45 : decode b_UN_takeCode 45 = .ok (.if_icmp .lt 13, 3) := by decide +kernel
theorem d_UN_takeCode_48 : decode b_UN_takeCode 48 = .ok (.new 63, 3) := by decide +kernel
theorem d_UN_takeCode_51 : decode b_UN_takeCode 51 = .ok (.dup, 1) := by decide +kernel
theorem d_UN_takeCode_52 : decode b_UN_takeCode 52 = .ok (.ldc 77, 2) := by decide +kernel
theorem d_UN_takeCode_54 : decode b_UN_takeCode 54 = .ok (.invokespecial 67, 3) := by decide +kernel
theorem d_UN_takeCode_57 : decode b_UN_takeCode 57 = .ok (.athrow, 1) := by decide +kernel
theorem d_UN_takeCode_58 : decode b_UN_takeCode 58 = .ok (.aload_n 0, 1) := by decide +kernel
theorem d_UN_takeCode_59 : decode b_UN_takeCode 59 = .ok (.getfield 12, 3) := by decide +kernel
theorem d_UN_takeCode_62 : decode b_UN_takeCode 62 = .ok (.iload_n 1, 1) := by decide +kernel
theorem d_UN_takeCode_63 : decode b_UN_takeCode 63 = .ok (.invokevirtual 79, 3) := by decide +kernel
theorem d_UN_takeCode_66 : decode b_UN_takeCode 66 = .ok (.istore_n 3, 1) := by decide +kernel
theorem d_UN_takeCode_67 : decode b_UN_takeCode 67 = .ok (.iload_n 3, 1) := by decide +kernel
theorem d_UN_takeCode_68 : decode b_UN_takeCode 68 = .ok (.ifCond .eq 7, 3) := by decide +kernel
theorem d_UN_takeCode_71 : decode b_UN_takeCode 71 = .ok (.iconst 1, 1) := by decide +kernel
theorem d_UN_takeCode_72 : decode b_UN_takeCode 72 = .ok (.goto 9, 3) := by decide +kernel
theorem d_UN_takeCode_75 : decode b_UN_takeCode 75 = .ok (.aload_n 0, 1) := by decide +kernel
theorem d_UN_takeCode_76 : decode b_UN_takeCode 76 = .ok (.getfield 22, 3) := by decide +kernel
theorem d_UN_takeCode_79 : decode b_UN_takeCode 79 = .ok (.iload_n 1, 1) := by decide +kernel
theorem d_UN_takeCode_80 : decode b_UN_takeCode 80 = .ok (.iaload, 1) := by decide +kernel
theorem d_UN_takeCode_81 : decode b_UN_takeCode 81 = .ok (.istore 4, 2) := by decide +kernel
theorem d_UN_takeCode_83 : decode b_UN_takeCode 83 = .ok (.iload 4, 2) := by decide +kernel
theorem d_UN_takeCode_85 : decode b_UN_takeCode 85 = .ok (.sipush 16384, 3) := by decide +kernel
theorem d_UN_takeCode_88 : decode b_UN_takeCode 88 = .ok (.aload_n 0, 1) := by decide +kernel
theorem d_UN_takeCode_89 : decode b_UN_takeCode 89 = .ok (.getfield 29, 3) := by decide +kernel
theorem d_UN_takeCode_92 : decode b_UN_takeCode 92 = .ok (.isub, 1) := by decide +kernel
theorem d_UN_takeCode_93 : decode b_UN_takeCode 93 = .ok (.if_icmp .le 13, 3) := by decide +kernel
theorem d_UN_takeCode_96 : decode b_UN_takeCode 96 = .ok (.new 83, 3) := by decide +kernel
theorem d_UN_takeCode_99 : decode b_UN_takeCode 99 = .ok (.dup, 1) := by decide +kernel
theorem d_UN_takeCode_100 : decode b_UN_takeCode 100 = .ok (.ldc 85, 2) := by decide +kernel
theorem d_UN_takeCode_102 : decode b_UN_takeCode 102 = .ok (.invokespecial 87, 3) := by decide +kernel
theorem d_UN_takeCode_105 : decode b_UN_takeCode 105 = .ok (.athrow, 1) := by decide +kernel
theorem d_UN_takeCode_106 : decode b_UN_takeCode 106 = .ok (.iload_n 3, 1) := by decide +kernel
theorem d_UN_takeCode_107 : decode b_UN_takeCode 107 = .ok (.ifCond .eq 17, 3) := by decide +kernel
theorem d_UN_takeCode_110 : decode b_UN_takeCode 110 = .ok (.aload_n 0, 1) := by decide +kernel
theorem d_UN_takeCode_111 : decode b_UN_takeCode 111 = .ok (.getfield 25, 3) := by decide +kernel
theorem d_UN_takeCode_114 : decode b_UN_takeCode 114 = .ok (.aload_n 0, 1) := by decide +kernel
theorem d_UN_takeCode_115 : decode b_UN_takeCode 115 = .ok (.getfield 29, 3) := by decide +kernel
theorem d_UN_takeCode_118 : decode b_UN_takeCode 118 = .ok (.iload_n 1, 1) := by decide +kernel
theorem d_UN_takeCode_119 : decode b_UN_takeCode 119 = .ok (.i2b, 1) := by decide +kernel
theorem d_UN_takeCode_120 : decode b_UN_takeCode 120 = .ok (.bastore, 1) := by decide +kernel
theorem d_UN_takeCode_121 : decode b_UN_takeCode 121 = .ok (.goto 15, 3) := by decide +kernel
theorem d_UN_takeCode_124 : decode b_UN_takeCode 124 = .ok (.aload_n 0, 1) := by decide +kernel
theorem d_UN_takeCode_125 : decode b_UN_takeCode 125 = .ok (.aload_n 0, 1) := by decide +kernel
theorem d_UN_takeCode_126 : decode b_UN_takeCode 126 = .ok (.getfield 18, 3) := by decide +kernel
theorem d_UN_takeCode_129 : decode b_UN_takeCode 129 = .ok (.iload_n 1, 1) := by decide +kernel
theorem d_UN_takeCode_130 : decode b_UN_takeCode 130 = .ok (.iaload, 1) := by decide +kernel
theorem d_UN_takeCode_131 : decode b_UN_takeCode 131 = .ok (.iload 4, 2) := by decide +kernel
theorem d_UN_takeCode_133 : decode b_UN_takeCode 133 = .ok (.invokevirtual 88, 3) := by decide +kernel
theorem d_UN_takeCode_136 : decode b_UN_takeCode 136 = .ok (.aload_n 0, 1) := by decide +kernel
theorem d_UN_takeCode_137 : decode b_UN_takeCode 137 = .ok (.aload_n 0, 1) := by decide +kernel
theorem d_UN_takeCode_138 : decode b_UN_takeCode 138 = .ok (.getfield 29, 3) := by decide +kernel
theorem d_UN_takeCode_141 : decode b_UN_takeCode 141 = .ok (.putfield 33, 3) := by decide +kernel
theorem d_UN_takeCode_144 : decode b_UN_takeCode 144 = .ok (.aload_n 0, 1) := by decide +kernel
theorem d_UN_takeCode_145 : decode b_UN_takeCode 145 = .ok (.iload 4, 2) := by decide +kernel
theorem d_UN_takeCode_147 : decode b_UN_takeCode 147 = .ok (.putfield 36, 3) := by decide +kernel
theorem d_UN_takeCode_150 : decode b_UN_takeCode 150 = .ok (.aload_n 0, 1) := by decide +kernel
theorem d_UN_takeCode_151 : decode b_UN_takeCode 151 = .ok (.dup, 1) := by decide +kernel
theorem d_UN_takeCode_152 : decode b_UN_takeCode 152 = .ok (.getfield 29, 3) := by decide +kernel
theorem d_UN_takeCode_155 : decode b_UN_takeCode 155 = .ok (.iload 4, 2) := by decide +kernel
theorem d_UN_takeCode_157 : decode b_UN_takeCode 157 = .ok (.iadd, 1) := by decide +kernel
theorem d_UN_takeCode_158 : decode b_UN_takeCode 158 = .ok (.putfield 29, 3) := by decide +kernel
theorem d_UN_takeCode_161 : decode b_UN_takeCode 161 = .ok (.aload_n 0, 1) := by decide +kernel
theorem d_UN_takeCode_162 : decode b_UN_takeCode 162 = .ok (.getfield 12, 3) := by decide +kernel
theorem d_UN_takeCode_165 : decode b_UN_takeCode 165 = .ok (.invokevirtual 92, 3) := by decide +kernel
theorem d_UN_takeCode_168 : decode b_UN_takeCode 168 = .ok (.return_, 1) := by decide +kernel
theorem d_UN_repeat_0 : decode b_UN_repeat 0 = .ok (.iconst 0, 1) := by decide +kernel
theorem d_UN_repeat_1 : decode b_UN_repeat 1 = .ok (.istore_n 3, 1) := by decide +kernel
theorem d_UN_repeat_2 : decode b_UN_repeat 2 = .ok (.iload_n 3, 1) := by decide +kernel
theorem d_UN_repeat_3 : decode b_UN_repeat 3 = .ok (.iload_n 2, 1) := by decide +kernel
theorem d_UN_repeat_4 : decode b_UN_repeat 4 = .ok (.if_icmp .ge 28, 3) := by decide +kernel
theorem d_UN_repeat_7 : decode b_UN_repeat 7 = .ok (.aload_n 0, 1) := by decide +kernel
theorem d_UN_repeat_8 : decode b_UN_repeat 8 = .ok (.getfield 25, 3) := by decide +kernel
theorem d_UN_repeat_11 : decode b_UN_repeat 11 = .ok (.aload_n 0, 1) := by decide +kernel
theorem d_UN_repeat_12 : decode b_UN_repeat 12 = .ok (.getfield 29, 3) := by decide +kernel
theorem d_UN_repeat_15 : decode b_UN_repeat 15 = .ok (.iload_n 3, 1) := by decide +kernel
theorem d_UN_repeat_16 : decode b_UN_repeat 16 = .ok (.iadd, 1) := by decide +kernel
theorem d_UN_repeat_17 : decode b_UN_repeat 17 = .ok (.aload_n 0, 1) := by decide +kernel
theorem d_UN_repeat_18 : decode b_UN_repeat 18 = .ok (.getfield 25, 3) := by decide +kernel
theorem d_UN_repeat_21 : decode b_UN_repeat 21 = .ok (.iload_n 1, 1) := by decide +kernel
theorem d_UN_repeat_22 : decode b_UN_repeat 22 = .ok (.iload_n 3, 1) := by decide +kernel
theorem d_UN_repeat_23 : decode b_UN_repeat 23 = .ok (.iadd, 1) := by decide +kernel
theorem d_UN_repeat_24 : decode b_UN_repeat 24 = .ok (.baload, 1) := by decide +kernel
theorem d_UN_repeat_25 : decode b_UN_repeat 25 = .ok (.bastore, 1) := by decide +kernel
theorem d_UN_repeat_26 : decode b_UN_repeat 26 = .ok (.iinc 3 1, 3) := by decide +kernel
theorem d_UN_repeat_29 : decode b_UN_repeat 29 = .ok (.goto (-27), 3) := by decide +kernel
theorem d_UN_repeat_32 : decode b_UN_repeat 32 = .ok (.return_, 1) := by decide +kernel
end
section
abbrev zr (d k n : Nat) : Room := { frames := d, cells := k, slots := n, locals := 60 * d }
abbrev zex : List String := ["java/lang/RuntimeException", "java/lang/Exception"]
theorem zex_fit : ∀ n ∈ zex, Bundle.fit n = true := by decide +kernel
theorem zu_NU : ∀ w ∈ u_ws R_NU T_NU 4, w ∈ zB := by decide +kernel
theorem zd_NU : ∀ j, j < 4 → defaultValue (ty_NU j) = vp_V [.int (0 : Int32), .int (0 : Int32), .int (0 : Int32), .int (0 : Int32)] j := fun j hj => by
  rcases (show j = 0 ∨ j = 1 ∨ j = 2 ∨ j = 3 by omega) with rfl | rfl | rfl | rfl <;> rfl
theorem zu_BS : ∀ w ∈ u_ws R_BS T_BS 4, w ∈ zB := by decide +kernel
theorem zd_BS : ∀ j, j < 4 → defaultValue (ty_BS j) = vp_V [.null, .int (0 : Int32), .int (0 : Int32), .int (0 : Int32)] j := fun j hj => by
  rcases (show j = 0 ∨ j = 1 ∨ j = 2 ∨ j = 3 by omega) with rfl | rfl | rfl | rfl <;> rfl
theorem zu_UN : ∀ w ∈ u_ws R_UN T_UN 7, w ∈ zB := by decide +kernel
theorem zd_UN : ∀ j, j < 7 → defaultValue (ty_UN j) = vp_V [.null, .null, .null, .null, .int (0 : Int32), .int (0 : Int32), .int (0 : Int32)] j := fun j hj => by
  rcases (show j = 0 ∨ j = 1 ∨ j = 2 ∨ j = 3 ∨ j = 4 ∨ j = 5 ∨ j = 6 by omega) with rfl | rfl | rfl | rfl | rfl | rfl | rfl <;> rfl
theorem zu_PK : ∀ w ∈ u_ws R_PK T_PK 5, w ∈ zB := by decide +kernel
theorem zd_PK : ∀ j, j < 5 → defaultValue (ty_PK j) = vp_V [.null, .null, .null, .null, .null] j := fun j hj => by
  rcases (show j = 0 ∨ j = 1 ∨ j = 2 ∨ j = 3 ∨ j = 4 by omega) with rfl | rfl | rfl | rfl | rfl <;> rfl
theorem zu_LB : ∀ w ∈ u_ws R_LB T_LB 7, w ∈ zB := by decide +kernel
theorem zd_LB : ∀ j, j < 7 → defaultValue (ty_LB j) = vp_V [.null, .int (0 : Int32), .null, .null, .int (0 : Int32), .null, .null] j := fun j hj => by
  rcases (show j = 0 ∨ j = 1 ∨ j = 2 ∨ j = 3 ∨ j = 4 ∨ j = 5 ∨ j = 6 by omega) with rfl | rfl | rfl | rfl | rfl | rfl | rfl <;> rfl
theorem zu_MO : ∀ w ∈ u_ws R_MO T_MO 21, w ∈ zB := by decide +kernel
theorem zd_MO : ∀ j, j < 21 → defaultValue (ty_MO j) = vp_V [.int (0 : Int32), .null, .int (0 : Int32), .null, .int (0 : Int32), .null, .int (0 : Int32), .null, .int (0 : Int32), .int (0 : Int32), .null, .int (0 : Int32), .null, .null, .null, .int (0 : Int32), .int (0 : Int32), .int (0 : Int32), .int (0 : Int32), .int (0 : Int32), .null] j := fun j hj => by
  rcases (show j = 0 ∨ j = 1 ∨ j = 2 ∨ j = 3 ∨ j = 4 ∨ j = 5 ∨ j = 6 ∨ j = 7 ∨ j = 8 ∨ j = 9 ∨ j = 10 ∨ j = 11 ∨ j = 12 ∨ j = 13 ∨ j = 14 ∨ j = 15 ∨ j = 16 ∨ j = 17 ∨ j = 18 ∨ j = 19 ∨ j = 20 by omega) with rfl | rfl | rfl | rfl | rfl | rfl | rfl | rfl | rfl | rfl | rfl | rfl | rfl | rfl | rfl | rfl | rfl | rfl | rfl | rfl | rfl <;> rfl
set_option maxRecDepth 100000 in
theorem zh_LB_44 : ∀ w ∈ Bundle.ownAtoms R_LB 44 "java/lang/IndexOutOfBoundsException" zex, w ∈ zB ∨ w ∈ zx_four := by decide +kernel
set_option maxRecDepth 100000 in
theorem zh_LB_55 : ∀ w ∈ Bundle.ownAtoms R_LB 55 "java/lang/IllegalArgumentException" zex, w ∈ zB ∨ w ∈ zx_four := by decide +kernel
set_option maxRecDepth 100000 in
theorem zh_LB_80 : ∀ w ∈ Bundle.ownAtoms R_LB 80 "java/lang/UnsupportedOperationException" zex, w ∈ zB ∨ w ∈ zx_four := by decide +kernel
set_option maxRecDepth 100000 in
theorem zh_MO_46 : ∀ w ∈ Bundle.ownAtoms0 R_MO 46 "java/lang/UnsupportedOperationException" zex, w ∈ zB ∨ w ∈ zx_four := by decide +kernel
set_option maxRecDepth 100000 in
theorem zh_MO_62 : ∀ w ∈ Bundle.ownAtoms0 R_MO 62 "java/lang/IndexOutOfBoundsException" zex, w ∈ zB ∨ w ∈ zx_four := by decide +kernel
set_option maxRecDepth 100000 in
theorem zh_BS_32 : ∀ w ∈ Bundle.ownAtoms R_BS 32 "java/lang/IndexOutOfBoundsException" zex, w ∈ zB ∨ w ∈ zx_four := by decide +kernel
set_option maxRecDepth 100000 in
theorem zh_UN_67 : ∀ w ∈ Bundle.ownAtoms R_UN 67 "java/lang/UnsupportedOperationException" zex, w ∈ zB ∨ w ∈ zx_four := by decide +kernel
set_option maxRecDepth 100000 in
theorem zh_UN_87 : ∀ w ∈ Bundle.ownAtoms R_UN 87 "java/lang/IndexOutOfBoundsException" zex, w ∈ zB ∨ w ∈ zx_four := by decide +kernel
/-- a truth as a number -/
def zb (b : Bool) : Int32 := if b then 1 else 0
theorem zb_t : zb true = 1 := rfl
theorem zb_f : zb false = 0 := rfl
theorem zb_01 (b : Bool) : zb b = 0 ∨ zb b = 1 := by cases b <;> simp [zb]
theorem zb_0 {b : Bool} : zb b = 0 ↔ b = false := by cases b <;> simp [zb]
theorem zp_shl1 : ∀ k, k < 16 → (1 : Int32) <<< (nI k &&& 31) = nI (2 ^ k) := by decide +kernel
theorem zp_lit {k : Nat} {K : Int32} (h : K = nI k) : K = nI k := h
theorem zp_lt {a k : Nat} {K : Int32} (hK : K = nI k) (ha : a < 2 ^ 31) (hk : k < 2 ^ 31) : nI a < K ↔ a < k := by rw [hK]; exact nI_ltI ha hk
theorem zp_le {a k : Nat} {K : Int32} (hK : K = nI k) (ha : a < 2 ^ 31) (hk : k < 2 ^ 31) : nI a ≤ K ↔ a ≤ k := by rw [hK]; exact nI_leI ha hk
theorem zp_ge {a k : Nat} {K : Int32} (hK : K = nI k) (ha : a < 2 ^ 31) (hk : k < 2 ^ 31) : K ≤ nI a ↔ k ≤ a := by rw [hK]; exact nI_leI hk ha
theorem zp_gt {a k : Nat} {K : Int32} (hK : K = nI k) (ha : a < 2 ^ 31) (hk : k < 2 ^ 31) : K < nI a ↔ k < a := by rw [hK]; exact nI_ltI hk ha
theorem zp_eq {a k : Nat} {K : Int32} (hK : K = nI k) (ha : a < 2 ^ 31) (hk : k < 2 ^ 31) : nI a = K ↔ a = k := by rw [hK]; exact nI_eq ha hk
theorem zp_pow {k : Nat} (h : k < 16) : 2 ^ k < 2 ^ 31 := Nat.pow_lt_pow_right (by decide) (by omega)
theorem zp_pow8 {k : Nat} (h : k ≤ 8) : 2 ^ k ≤ 256 := Nat.pow_le_pow_right (by decide) h
theorem zp_pow12 {k : Nat} (h : k ≤ 12) : 2 ^ k ≤ 4096 := Nat.pow_le_pow_right (by decide) h
end
section
theorem zs_LB_addToTape : Cond.selects R_LB y_LB_addToTape y_LB_addToTape ∈ zB := zB_s (q := (y_LB_addToTape, 7)) (i := 1) (by decide +kernel)
theorem zs_UN_takeCode : Cond.selects R_UN y_UN_takeCode y_UN_takeCode ∈ zB := zB_s (q := (y_UN_takeCode, 7)) (i := 2) (by decide +kernel)
theorem zs_UN_repeat : Cond.selects R_UN y_UN_repeat y_UN_repeat ∈ zB := zB_s (q := (y_UN_repeat, 7)) (i := 3) (by decide +kernel)
theorem zs_LB_takeSpareAsResult : Cond.selects R_LB y_LB_takeSpareAsResult y_LB_takeSpareAsResult ∈ zB := zB_s (q := (y_LB_takeSpareAsResult, 7)) (i := 4) (by decide +kernel)
theorem zs_LB_tapeIsIndices : Cond.selects R_LB y_LB_tapeIsIndices y_LB_tapeIsIndices ∈ zB := zB_s (q := (y_LB_tapeIsIndices, 7)) (i := 5) (by decide +kernel)
theorem zs_PK_writeBeginning : Cond.selects R_PK y_PK_writeBeginning y_PK_writeBeginning ∈ zB := zB_s (q := (y_PK_writeBeginning, 5)) (i := 6) (by decide +kernel)
theorem zs_BS_putByte : Cond.selects R_BS y_BS_putByte y_BS_putByte ∈ zB := zB_s (q := (y_BS_putByte, 4)) (i := 7) (by decide +kernel)
theorem zs_PK_childOf : Cond.selects R_PK y_PK_childOf y_PK_childOf ∈ zB := zB_s (q := (y_PK_childOf, 5)) (i := 8) (by decide +kernel)
theorem zs_PK_writeRow : Cond.selects R_PK y_PK_writeRow y_PK_writeRow ∈ zB := zB_s (q := (y_PK_writeRow, 5)) (i := 9) (by decide +kernel)
theorem zs_PK_addChild : Cond.selects R_PK y_PK_addChild y_PK_addChild ∈ zB := zB_s (q := (y_PK_addChild, 5)) (i := 10) (by decide +kernel)
theorem zs_MO_fail : Cond.selects R_MO y_MO_fail y_MO_fail ∈ zB := zB_s (q := (y_MO_fail, 21)) (i := 11) (by decide +kernel)
theorem zs_MO_unrows : Cond.selects R_MO y_MO_unrows y_MO_unrows ∈ zB := zB_s (q := (y_MO_unrows, 21)) (i := 12) (by decide +kernel)
theorem zs_MO_bits : Cond.selects R_MO y_MO_bits y_MO_bits ∈ zB := zB_s (q := (y_MO_bits, 21)) (i := 13) (by decide +kernel)
theorem zs_MO_can : Cond.selects R_MO y_MO_can y_MO_can ∈ zB := zB_s (q := (y_MO_can, 21)) (i := 14) (by decide +kernel)
theorem zs_MO_firstOf : Cond.selects R_MO y_MO_firstOf y_MO_firstOf ∈ zB := zB_s (q := (y_MO_firstOf, 21)) (i := 15) (by decide +kernel)
theorem zs_MO_giveRow : Cond.selects R_MO y_MO_giveRow y_MO_giveRow ∈ zB := zB_s (q := (y_MO_giveRow, 21)) (i := 16) (by decide +kernel)
theorem zs_MO_pack2 : Cond.selects R_MO y_MO_pack2 y_MO_pack2 ∈ zB := zB_s (q := (y_MO_pack2, 21)) (i := 17) (by decide +kernel)
theorem zs_MO_begin : Cond.selects R_MO y_MO_begin y_MO_begin ∈ zB := zB_s (q := (y_MO_begin, 21)) (i := 18) (by decide +kernel)
theorem zs_MO_putBits : Cond.selects R_MO y_MO_putBits y_MO_putBits ∈ zB := zB_s (q := (y_MO_putBits, 21)) (i := 19) (by decide +kernel)
theorem zs_MO_flush : Cond.selects R_MO y_MO_flush y_MO_flush ∈ zB := zB_s (q := (y_MO_flush, 21)) (i := 20) (by decide +kernel)
theorem zs_MO_put : Cond.selects R_MO y_MO_put y_MO_put ∈ zB := zB_s (q := (y_MO_put, 21)) (i := 21) (by decide +kernel)
theorem zs_MO_emit : Cond.selects R_MO y_MO_emit y_MO_emit ∈ zB := zB_s (q := (y_MO_emit, 21)) (i := 22) (by decide +kernel)
end
section
set_option maxRecDepth 100000 in
set_option maxHeartbeats 4000000 in
theorem sg_NU_beginAnew {p : Program} {l : Launch} {e : Env} {R : Room} {s : State} {m : MethodId} {args : Array Value} {below : List Frame} {meth : Method} {c : Code} {D : va_G} {cB cI cL : ClassId} {w0 : va_W} {kr nr : Nat} {post : Outcome → va_W → Prop} (C : zx_C p s m args c b_NU_beginAnew 1 R_NU zB D zcl (zt cB cI cL) (va_A w0 s.heap.size)) {a : Nat} {m9 b9 x9 f9 : Int32} (hr9 : meth.sig.returnType = none) (hlk9 : meth.locks = false) (r27 : post (.returned none) [(a, .inr (0, [.int m9, .int (m9 + (1 : Int32)), .int (((1 : Int32) <<< (m9 &&& 31)) + (2 : Int32)), .int (1 : Int32)]))]) : zx_At p l e R s m args below meth c (zx_Q below s D zcl w0 kr nr R post) D zcl (va_A w0 s.heap.size) 1 [(0, .ref a)] [(a, .inr (0, [.int m9, .int b9, .int x9, .int f9]))] 0 0 0 [] := by
  refine zx_aload_n (pc := 0) C d_NU_beginAnew_0 rfl 0 rfl ?_
  refine zx_aload_n (pc := 1) C d_NU_beginAnew_1 rfl 0 rfl ?_
  refine zx_get (pc := 2) (ci := 0) (Cn := R_NU) (T := T_NU) (N := 4) (v := .int m9) C zu_NU 0 rfl rfl 0 (by decide) zw_45 rfl rfl d_NU_beginAnew_2 ?_
  refine zx_iconst (pc := 5) C d_NU_beginAnew_5 (v := (1 : Int32)) (by decide) ?_
  refine zx_iadd (pc := 6) C d_NU_beginAnew_6 ?_
  refine zx_put (pc := 7) (ci := 0) (Cn := R_NU) (T := T_NU) (N := 4) (v := .int (m9 + (1 : Int32))) (ty := .int) (ws' := [(a, .inr (0, [.int m9, .int (m9 + (1 : Int32)), .int x9, .int f9]))]) C zu_NU ty_NU tyk_NU nm_NU 0 rfl rfl 1 (by decide) zw_48 rfl rfl (by decide +kernel) rfl rfl (Nat.le_of_ble_eq_true rfl) rfl d_NU_beginAnew_7 ?_
  refine zx_aload_n (pc := 10) C d_NU_beginAnew_10 rfl 0 rfl ?_
  refine zx_iconst (pc := 11) C d_NU_beginAnew_11 (v := (1 : Int32)) (by decide) ?_
  refine zx_aload_n (pc := 12) C d_NU_beginAnew_12 rfl 0 rfl ?_
  refine zx_get (pc := 13) (ci := 0) (Cn := R_NU) (T := T_NU) (N := 4) (v := .int m9) C zu_NU 0 rfl rfl 0 (by decide) zw_45 rfl rfl d_NU_beginAnew_13 ?_
  refine zx_ishl (pc := 16) C d_NU_beginAnew_16 ?_
  refine zx_iconst (pc := 17) C d_NU_beginAnew_17 (v := (2 : Int32)) (by decide) ?_
  refine zx_iadd (pc := 18) C d_NU_beginAnew_18 ?_
  refine zx_put (pc := 19) (ci := 0) (Cn := R_NU) (T := T_NU) (N := 4) (v := .int (((1 : Int32) <<< (m9 &&& 31)) + (2 : Int32))) (ty := .int) (ws' := [(a, .inr (0, [.int m9, .int (m9 + (1 : Int32)), .int (((1 : Int32) <<< (m9 &&& 31)) + (2 : Int32)), .int f9]))]) C zu_NU ty_NU tyk_NU nm_NU 0 rfl rfl 2 (by decide) zw_49 rfl rfl (by decide +kernel) rfl rfl (Nat.le_of_ble_eq_true rfl) rfl d_NU_beginAnew_19 ?_
  refine zx_aload_n (pc := 22) C d_NU_beginAnew_22 rfl 0 rfl ?_
  refine zx_iconst (pc := 23) C d_NU_beginAnew_23 (v := (1 : Int32)) (by decide) ?_
  refine zx_put (pc := 24) (ci := 0) (Cn := R_NU) (T := T_NU) (N := 4) (v := .int (1 : Int32)) (ty := .boolean) (ws' := [(a, .inr (0, [.int m9, .int (m9 + (1 : Int32)), .int (((1 : Int32) <<< (m9 &&& 31)) + (2 : Int32)), .int (1 : Int32)]))]) C zu_NU ty_NU tyk_NU nm_NU 0 rfl rfl 3 (by decide) zw_52 rfl rfl (by decide +kernel) (by decide) (by decide) (Nat.le_of_ble_eq_true rfl) rfl d_NU_beginAnew_24 ?_
  exact zx_vret (pc := 27) C hr9 hlk9 (Nat.zero_le _) (Nat.zero_le _) d_NU_beginAnew_27 (r27)

/-- beginAnew: bits, next row and first as behind a beginning -/
theorem k_NU_beginAnew (l : Launch) (D : va_G) (cB cI cL : ClassId) (R : Room) (a m : Nat) (b9 x9 f9 : Int32) (hm : m < 16) : zx_K l zB D zcl (zt cB cI cL) y_NU_beginAnew b_NU_beginAnew 1 (none) [] 0 0 R [.ref a] [(a, .inr (0, [.int (nI m), .int b9, .int x9, .int f9]))] (fun o w => o = .returned none ∧ w = [(a, .inr (0, [.int (nI m), .int (nI (m + 1)), .int (nI (2 ^ m + 2)), .int 1]))]) := by
  refine zx_K.mk (Nat.le_of_ble_eq_true rfl) (fun p e s mm below meth c C hr hlk ht hn => ?_)
  exact sg_NU_beginAnew C hr hlk ⟨rfl, by rw [zp_shl1 m hm, nI_1, show (2 : Int32) = nI 2 from rfl, nI_add]⟩
set_option maxRecDepth 100000 in
set_option maxHeartbeats 4000000 in
theorem sg_NU_init {p : Program} {l : Launch} {e : Env} {s : State} {m : MethodId} {args : Array Value} {below : List Frame} {meth : Method} {c : Code} {D : va_G} {cB cI cL : ClassId} {w0 : va_W} {kr nr : Nat} {post : Outcome → va_W → Prop} (C : zx_C p s m args c b_NU_init 1 R_NU zB D zcl (zt cB cI cL) (va_A w0 s.heap.size)) {a : Nat} {m9 b9 x9 f9 : Int32} (hr9 : meth.sig.returnType = none) (hlk9 : meth.locks = false) (hnm9 : meth.name = "<init>") (r4 : post (.returned none) [(a, .inr (0, [.int m9, .int b9, .int x9, .int f9]))]) : zx_At p l e (zr 1 0 0) s m args below meth c (zx_Q below s D zcl w0 kr nr (zr 1 0 0) post) D zcl (va_A w0 s.heap.size) 1 [(0, .ref a)] [(a, .inr (0, [.int m9, .int b9, .int x9, .int f9]))] 0 0 0 [] := by
  refine zx_aload_n (pc := 0) C d_NU_init_0 rfl 0 rfl ?_
  refine zx_objInit (pc := 1) C zw_44 zw_31 zw_32 d_NU_init_1 (Nat.le_of_ble_eq_true rfl) (Nat.le_of_ble_eq_true rfl) ?_
  exact zx_vret (pc := 4) C hr9 hlk9 (Nat.zero_le _) (Nat.zero_le _) d_NU_init_4 (r4)

theorem k_NU_init (l : Launch) (D : va_G) (cB cI cL : ClassId) (a : Nat) (m9 b9 x9 f9 : Int32) : zx_K l zB D zcl (zt cB cI cL) y_NU_init b_NU_init 1 (none) [] 0 0 (zr 1 0 0) [.ref a] [(a, .inr (0, [.int m9, .int b9, .int x9, .int f9]))] (fun o w => o = .returned none ∧ w = [(a, .inr (0, [.int m9, .int b9, .int x9, .int f9]))]) := by
  refine zx_K.mk (Nat.le_of_ble_eq_true rfl) (fun p e s mm below meth c C hr hlk ht hn => ?_)
  exact sg_NU_init C hr hlk hn ⟨rfl, rfl⟩
set_option maxRecDepth 100000 in
set_option maxHeartbeats 4000000 in
theorem sg_NU_beginning {p : Program} {l : Launch} {e : Env} {R : Room} {s : State} {m : MethodId} {args : Array Value} {below : List Frame} {meth : Method} {c : Code} {D : va_G} {cB cI cL : ClassId} {w0 : va_W} {kr nr : Nat} {post : Outcome → va_W → Prop} (C : zx_C p s m args c b_NU_beginning 1 R_NU zB D zcl (zt cB cI cL) (va_A w0 s.heap.size)) {a : Nat} {m9 b9 x9 f9 : Int32} (hr9 : meth.sig.returnType = some .int) (hlk9 : meth.locks = false) (r6 : post (.returned (some (.int ((1 : Int32) <<< (m9 &&& 31))))) [(a, .inr (0, [.int m9, .int b9, .int x9, .int f9]))]) : zx_At p l e R s m args below meth c (zx_Q below s D zcl w0 kr nr R post) D zcl (va_A w0 s.heap.size) 1 [(0, .ref a)] [(a, .inr (0, [.int m9, .int b9, .int x9, .int f9]))] 0 0 0 [] := by
  refine zx_iconst (pc := 0) C d_NU_beginning_0 (v := (1 : Int32)) (by decide) ?_
  refine zx_aload_n (pc := 1) C d_NU_beginning_1 rfl 0 rfl ?_
  refine zx_get (pc := 2) (ci := 0) (Cn := R_NU) (T := T_NU) (N := 4) (v := .int m9) C zu_NU 0 rfl rfl 0 (by decide) zw_45 rfl rfl d_NU_beginning_2 ?_
  refine zx_ishl (pc := 5) C d_NU_beginning_5 ?_
  exact zx_iret (pc := 6) C hr9 hlk9 (Nat.zero_le _) (Nat.zero_le _) d_NU_beginning_6 (r6)

theorem k_NU_beginning (l : Launch) (D : va_G) (cB cI cL : ClassId) (R : Room) (a m : Nat) (b9 x9 f9 : Int32) (hm : m < 16) : zx_K l zB D zcl (zt cB cI cL) y_NU_beginning b_NU_beginning 1 (some .int) [] 0 0 R [.ref a] [(a, .inr (0, [.int (nI m), .int b9, .int x9, .int f9]))] (fun o w => o = .returned (some (.int (nI (2 ^ m)))) ∧ w = [(a, .inr (0, [.int (nI m), .int b9, .int x9, .int f9]))]) := by
  refine zx_K.mk (Nat.le_of_ble_eq_true rfl) (fun p e s mm below meth c C hr hlk ht hn => ?_)
  exact sg_NU_beginning C hr hlk ⟨by rw [zp_shl1 m hm], rfl⟩
set_option maxRecDepth 100000 in
set_option maxHeartbeats 4000000 in
theorem sg_NU_ending {p : Program} {l : Launch} {e : Env} {R : Room} {s : State} {m : MethodId} {args : Array Value} {below : List Frame} {meth : Method} {c : Code} {D : va_G} {cB cI cL : ClassId} {w0 : va_W} {kr nr : Nat} {post : Outcome → va_W → Prop} (C : zx_C p s m args c b_NU_ending 1 R_NU zB D zcl (zt cB cI cL) (va_A w0 s.heap.size)) {a : Nat} {m9 b9 x9 f9 : Int32} (hr9 : meth.sig.returnType = some .int) (hlk9 : meth.locks = false) (r8 : post (.returned (some (.int (((1 : Int32) <<< (m9 &&& 31)) + (1 : Int32))))) [(a, .inr (0, [.int m9, .int b9, .int x9, .int f9]))]) : zx_At p l e R s m args below meth c (zx_Q below s D zcl w0 kr nr R post) D zcl (va_A w0 s.heap.size) 1 [(0, .ref a)] [(a, .inr (0, [.int m9, .int b9, .int x9, .int f9]))] 0 0 0 [] := by
  refine zx_iconst (pc := 0) C d_NU_ending_0 (v := (1 : Int32)) (by decide) ?_
  refine zx_aload_n (pc := 1) C d_NU_ending_1 rfl 0 rfl ?_
  refine zx_get (pc := 2) (ci := 0) (Cn := R_NU) (T := T_NU) (N := 4) (v := .int m9) C zu_NU 0 rfl rfl 0 (by decide) zw_45 rfl rfl d_NU_ending_2 ?_
  refine zx_ishl (pc := 5) C d_NU_ending_5 ?_
  refine zx_iconst (pc := 6) C d_NU_ending_6 (v := (1 : Int32)) (by decide) ?_
  refine zx_iadd (pc := 7) C d_NU_ending_7 ?_
  exact zx_iret (pc := 8) C hr9 hlk9 (Nat.zero_le _) (Nat.zero_le _) d_NU_ending_8 (r8)

theorem k_NU_ending (l : Launch) (D : va_G) (cB cI cL : ClassId) (R : Room) (a m : Nat) (b9 x9 f9 : Int32) (hm : m < 16) : zx_K l zB D zcl (zt cB cI cL) y_NU_ending b_NU_ending 1 (some .int) [] 0 0 R [.ref a] [(a, .inr (0, [.int (nI m), .int b9, .int x9, .int f9]))] (fun o w => o = .returned (some (.int (nI (2 ^ m + 1)))) ∧ w = [(a, .inr (0, [.int (nI m), .int b9, .int x9, .int f9]))]) := by
  refine zx_K.mk (Nat.le_of_ble_eq_true rfl) (fun p e s mm below meth c C hr hlk ht hn => ?_)
  exact sg_NU_ending C hr hlk ⟨by rw [zp_shl1 m hm, nI_1], rfl⟩
set_option maxRecDepth 100000 in
set_option maxHeartbeats 4000000 in
theorem sg_NU_isFull {p : Program} {l : Launch} {e : Env} {R : Room} {s : State} {m : MethodId} {args : Array Value} {below : List Frame} {meth : Method} {c : Code} {D : va_G} {cB cI cL : ClassId} {w0 : va_W} {kr nr : Nat} {post : Outcome → va_W → Prop} (C : zx_C p s m args c b_NU_isFull 1 R_NU zB D zcl (zt cB cI cL) (va_A w0 s.heap.size)) {a : Nat} {m9 b9 x9 f9 : Int32} (hr9 : meth.sig.returnType = some .boolean) (hlk9 : meth.locks = false) (r15 : (x9 < (4096 : Int32)) → post (.returned (some (.int (0 : Int32)))) [(a, .inr (0, [.int m9, .int b9, .int x9, .int f9]))]) (r15_2 : (¬ x9 < (4096 : Int32)) → post (.returned (some (.int (1 : Int32)))) [(a, .inr (0, [.int m9, .int b9, .int x9, .int f9]))]) : zx_At p l e R s m args below meth c (zx_Q below s D zcl w0 kr nr R post) D zcl (va_A w0 s.heap.size) 1 [(0, .ref a)] [(a, .inr (0, [.int m9, .int b9, .int x9, .int f9]))] 0 0 0 [] := by
  refine zx_aload_n (pc := 0) C d_NU_isFull_0 rfl 0 rfl ?_
  refine zx_get (pc := 1) (ci := 0) (Cn := R_NU) (T := T_NU) (N := 4) (v := .int x9) C zu_NU 0 rfl rfl 2 (by decide) zw_49 rfl rfl d_NU_isFull_1 ?_
  refine zx_sipush (pc := 4) C d_NU_isFull_4 (v := (4096 : Int32)) (by decide) ?_
  refine zx_icmp_lt (pc := 7) C 14 d_NU_isFull_7 (by decide) (fun c7 => ?_) (fun c7 => ?_)
  · refine zx_iconst (pc := 14) C d_NU_isFull_14 (v := (0 : Int32)) (by decide) ?_
    exact zx_zret (pc := 15) C hr9 (Or.inl rfl) hlk9 (Nat.zero_le _) (Nat.zero_le _) d_NU_isFull_15 (r15 c7)
  · refine zx_iconst (pc := 10) C d_NU_isFull_10 (v := (1 : Int32)) (by decide) ?_
    refine zx_goto (pc := 11) C 15 d_NU_isFull_11 (by decide) ?_
    exact zx_zret (pc := 15) C hr9 (Or.inr rfl) hlk9 (Nat.zero_le _) (Nat.zero_le _) d_NU_isFull_15 (r15_2 c7)

theorem k_NU_isFull (l : Launch) (D : va_G) (cB cI cL : ClassId) (R : Room) (a x : Nat) (m9 b9 f9 : Int32) (hx : x < 2 ^ 31) : zx_K l zB D zcl (zt cB cI cL) y_NU_isFull b_NU_isFull 1 (some .boolean) [] 0 0 R [.ref a] [(a, .inr (0, [.int m9, .int b9, .int (nI x), .int f9]))] (fun o w => o = .returned (some (.int (zb (decide (4096 ≤ x))))) ∧ w = [(a, .inr (0, [.int m9, .int b9, .int (nI x), .int f9]))]) := by
  refine zx_K.mk (Nat.le_of_ble_eq_true rfl) (fun p e s mm below meth c C hr hlk ht hn => ?_)
  refine sg_NU_isFull C hr hlk (fun h => ⟨?_, rfl⟩) (fun h => ⟨?_, rfl⟩)
  · have h2 : x < 4096 := (zp_lt (K := 4096) rfl hx (by decide)).mp h
    rw [decide_eq_false (by omega)]; rfl
  · have h2 : ¬ x < 4096 := fun q => h ((zp_lt (K := 4096) rfl hx (by decide)).mpr q)
    rw [decide_eq_true (by omega)]; rfl
set_option maxRecDepth 100000 in
set_option maxHeartbeats 4000000 in
theorem sg_NU_isIndex {p : Program} {l : Launch} {e : Env} {R : Room} {s : State} {m : MethodId} {args : Array Value} {below : List Frame} {meth : Method} {c : Code} {D : va_G} {cB cI cL : ClassId} {w0 : va_W} {kr nr : Nat} {post : Outcome → va_W → Prop} (C : zx_C p s m args c b_NU_isIndex 2 R_NU zB D zcl (zt cB cI cL) (va_A w0 s.heap.size)) {a : Nat} {m9 b9 x9 f9 : Int32} {c9 : Int32} (hr9 : meth.sig.returnType = some .boolean) (hlk9 : meth.locks = false) (r15 : (((1 : Int32) <<< (m9 &&& 31)) ≤ c9) → post (.returned (some (.int (0 : Int32)))) [(a, .inr (0, [.int m9, .int b9, .int x9, .int f9]))]) (r15_2 : (¬ ((1 : Int32) <<< (m9 &&& 31)) ≤ c9) → post (.returned (some (.int (1 : Int32)))) [(a, .inr (0, [.int m9, .int b9, .int x9, .int f9]))]) : zx_At p l e R s m args below meth c (zx_Q below s D zcl w0 kr nr R post) D zcl (va_A w0 s.heap.size) 2 [(0, .ref a), (1, .int c9)] [(a, .inr (0, [.int m9, .int b9, .int x9, .int f9]))] 0 0 0 [] := by
  refine zx_iload_n (pc := 0) C d_NU_isIndex_0 rfl 1 rfl ?_
  refine zx_iconst (pc := 1) C d_NU_isIndex_1 (v := (1 : Int32)) (by decide) ?_
  refine zx_aload_n (pc := 2) C d_NU_isIndex_2 rfl 0 rfl ?_
  refine zx_get (pc := 3) (ci := 0) (Cn := R_NU) (T := T_NU) (N := 4) (v := .int m9) C zu_NU 0 rfl rfl 0 (by decide) zw_45 rfl rfl d_NU_isIndex_3 ?_
  refine zx_ishl (pc := 6) C d_NU_isIndex_6 ?_
  refine zx_icmp_ge (pc := 7) C 14 d_NU_isIndex_7 (by decide) (fun c7 => ?_) (fun c7 => ?_)
  · refine zx_iconst (pc := 14) C d_NU_isIndex_14 (v := (0 : Int32)) (by decide) ?_
    exact zx_zret (pc := 15) C hr9 (Or.inl rfl) hlk9 (Nat.zero_le _) (Nat.zero_le _) d_NU_isIndex_15 (r15 c7)
  · refine zx_iconst (pc := 10) C d_NU_isIndex_10 (v := (1 : Int32)) (by decide) ?_
    refine zx_goto (pc := 11) C 15 d_NU_isIndex_11 (by decide) ?_
    exact zx_zret (pc := 15) C hr9 (Or.inr rfl) hlk9 (Nat.zero_le _) (Nat.zero_le _) d_NU_isIndex_15 (r15_2 c7)

theorem k_NU_isIndex (l : Launch) (D : va_G) (cB cI cL : ClassId) (R : Room) (a m k : Nat) (b9 x9 f9 : Int32) (hm : m < 16) (hk : k < 2 ^ 31) : zx_K l zB D zcl (zt cB cI cL) y_NU_isIndex b_NU_isIndex 2 (some .boolean) [] 0 0 R [.ref a, .int (nI k)] [(a, .inr (0, [.int (nI m), .int b9, .int x9, .int f9]))] (fun o w => o = .returned (some (.int (zb (decide (k < 2 ^ m))))) ∧ w = [(a, .inr (0, [.int (nI m), .int b9, .int x9, .int f9]))]) := by
  refine zx_K.mk (Nat.le_of_ble_eq_true rfl) (fun p e s mm below meth c C hr hlk ht hn => ?_)
  refine sg_NU_isIndex C hr hlk (fun h => ⟨?_, rfl⟩) (fun h => ⟨?_, rfl⟩)
  · rw [zp_shl1 m hm] at h
    have h2 := (nI_leI (zp_pow hm) hk).mp h
    rw [decide_eq_false (by omega)]; rfl
  · rw [zp_shl1 m hm] at h
    have h2 : ¬ 2 ^ m ≤ k := fun q => h ((nI_leI (zp_pow hm) hk).mpr q)
    rw [decide_eq_true (by omega)]; rfl
set_option maxRecDepth 100000 in
set_option maxHeartbeats 4000000 in
theorem sg_NU_startWith {p : Program} {l : Launch} {e : Env} {s : State} {m : MethodId} {args : Array Value} {below : List Frame} {meth : Method} {c : Code} {D : va_G} {cB cI cL : ClassId} {w0 : va_W} {kr nr : Nat} {post : Outcome → va_W → Prop} (C : zx_C p s m args c b_NU_startWith 2 R_NU zB D zcl (zt cB cI cL) (va_A w0 s.heap.size)) {a : Nat} {m9 b9 x9 f9 : Int32} {m8 : Nat} (hm8 : m8 < 16) (hr9 : meth.sig.returnType = none) (hlk9 : meth.locks = false) (r9 : post (.returned none) [(a, .inr (0, [.int (nI m8), .int (nI (m8 + 1)), .int (nI (2 ^ m8 + 2)), .int 1]))]) : zx_At p l e (zr 1 0 0) s m args below meth c (zx_Q below s D zcl w0 kr nr (zr 1 0 0) post) D zcl (va_A w0 s.heap.size) 2 [(0, .ref a), (1, .int (nI m8))] [(a, .inr (0, [.int m9, .int b9, .int x9, .int f9]))] 0 0 0 [] := by
  refine zx_aload_n (pc := 0) C d_NU_startWith_0 rfl 0 rfl ?_
  refine zx_iload_n (pc := 1) C d_NU_startWith_1 rfl 1 rfl ?_
  refine zx_put (pc := 2) (ci := 0) (Cn := R_NU) (T := T_NU) (N := 4) (v := .int (nI m8)) (ty := .int) (ws' := [(a, .inr (0, [.int (nI m8), .int b9, .int x9, .int f9]))]) C zu_NU ty_NU tyk_NU nm_NU 0 rfl rfl 0 (by decide) zw_45 rfl rfl (by decide +kernel) rfl rfl (Nat.le_of_ble_eq_true rfl) rfl d_NU_startWith_2 ?_
  refine zx_aload_n (pc := 5) C d_NU_startWith_5 rfl 0 rfl ?_
  refine zx_callV (pc := 6) (ix := 15) (As := []) (b := a) (q0 := 0) (wr := []) (st := []) C (zx_cw.of (C.w zw_285)) (by decide +kernel) ⟨by decide +kernel, by decide +kernel⟩ zw_283 zw_284 zw_282 rfl rfl rfl rfl rfl (k_NU_beginAnew l D cB cI cL (zr 0 0 0) a m8 b9 x9 f9 hm8) rfl [0] [] rfl rfl (by decide) (by decide) (by decide) (Nat.le_of_ble_eq_true rfl) (Nat.le_of_ble_eq_true rfl) (Nat.le_of_ble_eq_true rfl) (Nat.le_of_ble_eq_true rfl) d_NU_startWith_6 (fun o w1 hp => ?_)
  obtain ⟨rfl, rfl⟩ := hp
  refine zx_rv (k2 := 0) (n2 := 0) rfl rfl ?_
  refine zx_ws (ws' := [(a, .inr (0, [.int (nI m8), .int (nI (m8 + 1)), .int (nI (2 ^ m8 + 2)), .int 1]))]) [0] (by decide) rfl ?_
  exact zx_vret (pc := 9) C hr9 hlk9 (Nat.zero_le _) (Nat.zero_le _) d_NU_startWith_9 (r9)

theorem k_NU_startWith (l : Launch) (D : va_G) (cB cI cL : ClassId) (a m : Nat) (m9 b9 x9 f9 : Int32) (hm : m < 16) : zx_K l zB D zcl (zt cB cI cL) y_NU_startWith b_NU_startWith 2 (none) [] 0 0 (zr 1 0 0) [.ref a, .int (nI m)] [(a, .inr (0, [.int m9, .int b9, .int x9, .int f9]))] (fun o w => o = .returned none ∧ w = [(a, .inr (0, [.int (nI m), .int (nI (m + 1)), .int (nI (2 ^ m + 2)), .int 1]))]) := by
  refine zx_K.mk (Nat.le_of_ble_eq_true rfl) (fun p e s mm below meth c C hr hlk ht hn => ?_)
  exact sg_NU_startWith C hm hr hlk ⟨rfl, rfl⟩
set_option maxRecDepth 100000 in
set_option maxHeartbeats 4000000 in
theorem sg_NU_ncmr {p : Program} {l : Launch} {e : Env} {s : State} {m : MethodId} {args : Array Value} {below : List Frame} {meth : Method} {c : Code} {D : va_G} {cB cI cL : ClassId} {w0 : va_W} {kr nr : Nat} {post : Outcome → va_W → Prop} (C : zx_C p s m args c b_NU_nextCodeMakesRow 1 R_NU zB D zcl (zt cB cI cL) (va_A w0 s.heap.size)) {a : Nat} {m9 b9 f9 : Int32} {x8 : Nat} (hx8 : x8 < 2 ^ 31) (hr9 : meth.sig.returnType = some .boolean) (hlk9 : meth.locks = false) (r19 : (¬ f9 = 0) → post (.returned (some (.int (0 : Int32)))) [(a, .inr (0, [.int m9, .int b9, .int (nI x8), .int f9]))]) (r19_2 : (f9 = 0) → (¬ (zb (decide (4096 ≤ x8))) = 0) → post (.returned (some (.int (0 : Int32)))) [(a, .inr (0, [.int m9, .int b9, .int (nI x8), .int f9]))]) (r19_3 : (f9 = 0) → ((zb (decide (4096 ≤ x8))) = 0) → post (.returned (some (.int (1 : Int32)))) [(a, .inr (0, [.int m9, .int b9, .int (nI x8), .int f9]))]) : zx_At p l e (zr 1 0 0) s m args below meth c (zx_Q below s D zcl w0 kr nr (zr 1 0 0) post) D zcl (va_A w0 s.heap.size) 1 [(0, .ref a)] [(a, .inr (0, [.int m9, .int b9, .int (nI x8), .int f9]))] 0 0 0 [] := by
  refine zx_aload_n (pc := 0) C d_NU_nextCodeMakesRow_0 rfl 0 rfl ?_
  refine zx_get (pc := 1) (ci := 0) (Cn := R_NU) (T := T_NU) (N := 4) (v := .int f9) C zu_NU 0 rfl rfl 3 (by decide) zw_52 rfl rfl d_NU_nextCodeMakesRow_1 ?_
  refine zx_if_ne (pc := 4) C 18 d_NU_nextCodeMakesRow_4 (by decide) (fun c4 => ?_) (fun c4 => ?_)
  · refine zx_iconst (pc := 18) C d_NU_nextCodeMakesRow_18 (v := (0 : Int32)) (by decide) ?_
    exact zx_zret (pc := 19) C hr9 (Or.inl rfl) hlk9 (Nat.zero_le _) (Nat.zero_le _) d_NU_nextCodeMakesRow_19 (r19 c4)
  · refine zx_aload_n (pc := 7) C d_NU_nextCodeMakesRow_7 rfl 0 rfl ?_
    refine zx_callV (pc := 8) (ix := 28) (As := []) (b := a) (q0 := 0) (wr := []) (st := []) C (zx_cw.of (C.w zw_309)) (by decide +kernel) ⟨by decide +kernel, by decide +kernel⟩ zw_307 zw_308 zw_306 rfl rfl rfl rfl rfl (k_NU_isFull l D cB cI cL (zr 0 0 0) a x8 m9 b9 f9 hx8) rfl [0] [] rfl rfl (by decide) (by decide) (by decide) (Nat.le_of_ble_eq_true rfl) (Nat.le_of_ble_eq_true rfl) (Nat.le_of_ble_eq_true rfl) (Nat.le_of_ble_eq_true rfl) d_NU_nextCodeMakesRow_8 (fun o w1 hp => ?_)
    obtain ⟨rfl, rfl⟩ := hp
    refine zx_ri (k2 := 0) (n2 := 0) rfl rfl ?_
    refine zx_ws (ws' := [(a, .inr (0, [.int m9, .int b9, .int (nI x8), .int f9]))]) [0] (by decide) rfl ?_
    refine zx_if_ne (pc := 11) C 18 d_NU_nextCodeMakesRow_11 (by decide) (fun c11 => ?_) (fun c11 => ?_)
    · refine zx_iconst (pc := 18) C d_NU_nextCodeMakesRow_18 (v := (0 : Int32)) (by decide) ?_
      exact zx_zret (pc := 19) C hr9 (Or.inl rfl) hlk9 (Nat.zero_le _) (Nat.zero_le _) d_NU_nextCodeMakesRow_19 (r19_2 c4 c11)
    · refine zx_iconst (pc := 14) C d_NU_nextCodeMakesRow_14 (v := (1 : Int32)) (by decide) ?_
      refine zx_goto (pc := 15) C 19 d_NU_nextCodeMakesRow_15 (by decide) ?_
      exact zx_zret (pc := 19) C hr9 (Or.inr rfl) hlk9 (Nat.zero_le _) (Nat.zero_le _) d_NU_nextCodeMakesRow_19 (r19_3 c4 c11)

theorem k_NU_nextCodeMakesRow (l : Launch) (D : va_G) (cB cI cL : ClassId) (a x : Nat) (m9 b9 : Int32) (f : Bool) (hx : x < 2 ^ 31) : zx_K l zB D zcl (zt cB cI cL) y_NU_nextCodeMakesRow b_NU_nextCodeMakesRow 1 (some .boolean) [] 0 0 (zr 1 0 0) [.ref a] [(a, .inr (0, [.int m9, .int b9, .int (nI x), .int (zb f)]))] (fun o w => o = .returned (some (.int (zb (!f && decide (x < 4096))))) ∧ w = [(a, .inr (0, [.int m9, .int b9, .int (nI x), .int (zb f)]))]) := by
  refine zx_K.mk (Nat.le_of_ble_eq_true rfl) (fun p e s mm below meth c C hr hlk ht hn => ?_)
  refine sg_NU_ncmr C hx hr hlk ?_ ?_ ?_
  · intro h
    cases f with
    | false => exact absurd rfl h
    | true => exact ⟨rfl, rfl⟩
  · intro h1 h2
    have h3 := zb_0.mp h1
    subst h3
    have h4 : 4096 ≤ x := by
      by_cases q : 4096 ≤ x
      · exact q
      · rw [decide_eq_false q] at h2; exact absurd rfl h2
    exact ⟨by rw [decide_eq_false (by omega : ¬ x < 4096)]; rfl, rfl⟩
  · intro h1 h2
    have h3 := zb_0.mp h1
    subst h3
    have h4 := zb_0.mp h2
    have h5 : ¬ 4096 ≤ x := of_decide_eq_false h4
    exact ⟨by rw [decide_eq_true (by omega : x < 4096)]; rfl, rfl⟩
set_option maxRecDepth 100000 in
set_option maxHeartbeats 4000000 in
theorem sg_NU_pass {p : Program} {l : Launch} {e : Env} {s : State} {m : MethodId} {args : Array Value} {below : List Frame} {meth : Method} {c : Code} {D : va_G} {cB cI cL : ClassId} {w0 : va_W} {kr nr : Nat} {post : Outcome → va_W → Prop} (C : zx_C p s m args c b_NU_passCode 1 R_NU zB D zcl (zt cB cI cL) (va_A w0 s.heap.size)) {a : Nat} {m9 : Int32} {b8 x8 : Nat} {f8 : Bool} (hx8 : x8 < 2 ^ 31) (hr9 : meth.sig.returnType = none) (hlk9 : meth.locks = false) (r54 : ((zb (!f8 && decide (x8 < 4096))) = 0) → post (.returned none) [(a, .inr (0, [.int m9, .int (nI b8), .int (nI x8), .int (0 : Int32)]))]) (e13 : (¬ (zb (!f8 && decide (x8 < 4096))) = 0) → ((nI x8) + (1 : Int32)) = (nI (x8 + 1))) (e26 : (¬ (zb (!f8 && decide (x8 < 4096))) = 0) → ((1 : Int32) <<< ((nI b8) &&& 31)) = (nI (2 ^ b8))) (r54_2 : (¬ (zb (!f8 && decide (x8 < 4096))) = 0) → (¬ (nI (x8 + 1)) = (nI (2 ^ b8))) → post (.returned none) [(a, .inr (0, [.int m9, .int (nI b8), .int (nI (x8 + 1)), .int (0 : Int32)]))]) (r54_3 : (¬ (zb (!f8 && decide (x8 < 4096))) = 0) → ((nI (x8 + 1)) = (nI (2 ^ b8))) → ((12 : Int32) ≤ (nI b8)) → post (.returned none) [(a, .inr (0, [.int m9, .int (nI b8), .int (nI (x8 + 1)), .int (0 : Int32)]))]) (e45 : (¬ (zb (!f8 && decide (x8 < 4096))) = 0) → ((nI (x8 + 1)) = (nI (2 ^ b8))) → (¬ (12 : Int32) ≤ (nI b8)) → ((nI b8) + (1 : Int32)) = (nI (b8 + 1))) (r54_4 : (¬ (zb (!f8 && decide (x8 < 4096))) = 0) → ((nI (x8 + 1)) = (nI (2 ^ b8))) → (¬ (12 : Int32) ≤ (nI b8)) → post (.returned none) [(a, .inr (0, [.int m9, .int (nI (b8 + 1)), .int (nI (x8 + 1)), .int (0 : Int32)]))]) : zx_At p l e (zr 2 0 0) s m args below meth c (zx_Q below s D zcl w0 kr nr (zr 2 0 0) post) D zcl (va_A w0 s.heap.size) 1 [(0, .ref a)] [(a, .inr (0, [.int m9, .int (nI b8), .int (nI x8), .int (zb f8)]))] 0 0 0 [] := by
  refine zx_aload_n (pc := 0) C d_NU_passCode_0 rfl 0 rfl ?_
  refine zx_callV (pc := 1) (ix := 32) (As := []) (b := a) (q0 := 0) (wr := []) (st := []) C (zx_cw.of (C.w zw_305)) (by decide +kernel) ⟨by decide +kernel, by decide +kernel⟩ zw_303 zw_304 zw_341 rfl rfl rfl rfl rfl (k_NU_nextCodeMakesRow l D cB cI cL a x8 m9 (nI b8) f8 hx8) rfl [0] [] rfl rfl (by decide) (by decide) (by decide) (Nat.le_of_ble_eq_true rfl) (Nat.le_of_ble_eq_true rfl) (Nat.le_of_ble_eq_true rfl) (Nat.le_of_ble_eq_true rfl) d_NU_passCode_1 (fun o w1 hp => ?_)
  obtain ⟨rfl, rfl⟩ := hp
  refine zx_ri (k2 := 0) (n2 := 0) rfl rfl ?_
  refine zx_ws (ws' := [(a, .inr (0, [.int m9, .int (nI b8), .int (nI x8), .int (zb f8)]))]) [0] (by decide) rfl ?_
  refine zx_if_eq (pc := 4) C 49 d_NU_passCode_4 (by decide) (fun c4 => ?_) (fun c4 => ?_)
  · refine zx_aload_n (pc := 49) C d_NU_passCode_49 rfl 0 rfl ?_
    refine zx_iconst (pc := 50) C d_NU_passCode_50 (v := (0 : Int32)) (by decide) ?_
    refine zx_put (pc := 51) (ci := 0) (Cn := R_NU) (T := T_NU) (N := 4) (v := .int (0 : Int32)) (ty := .boolean) (ws' := [(a, .inr (0, [.int m9, .int (nI b8), .int (nI x8), .int (0 : Int32)]))]) C zu_NU ty_NU tyk_NU nm_NU 0 rfl rfl 3 (by decide) zw_52 rfl rfl (by decide +kernel) (by decide) (by decide) (Nat.le_of_ble_eq_true rfl) rfl d_NU_passCode_51 ?_
    exact zx_vret (pc := 54) C hr9 hlk9 (Nat.zero_le _) (Nat.zero_le _) d_NU_passCode_54 (r54 c4)
  · refine zx_aload_n (pc := 7) C d_NU_passCode_7 rfl 0 rfl ?_
    refine zx_dup (pc := 8) C d_NU_passCode_8 rfl ?_
    refine zx_get (pc := 9) (ci := 0) (Cn := R_NU) (T := T_NU) (N := 4) (v := .int (nI x8)) C zu_NU 0 rfl rfl 2 (by decide) zw_49 rfl rfl d_NU_passCode_9 ?_
    refine zx_iconst (pc := 12) C d_NU_passCode_12 (v := (1 : Int32)) (by decide) ?_
    refine zx_iadd (pc := 13) C d_NU_passCode_13 ?_
    refine zx_seti (nI (x8 + 1)) (e13 c4) ?_
    refine zx_put (pc := 14) (ci := 0) (Cn := R_NU) (T := T_NU) (N := 4) (v := .int (nI (x8 + 1))) (ty := .int) (ws' := [(a, .inr (0, [.int m9, .int (nI b8), .int (nI (x8 + 1)), .int (zb f8)]))]) C zu_NU ty_NU tyk_NU nm_NU 0 rfl rfl 2 (by decide) zw_49 rfl rfl (by decide +kernel) rfl rfl (Nat.le_of_ble_eq_true rfl) rfl d_NU_passCode_14 ?_
    refine zx_aload_n (pc := 17) C d_NU_passCode_17 rfl 0 rfl ?_
    refine zx_get (pc := 18) (ci := 0) (Cn := R_NU) (T := T_NU) (N := 4) (v := .int (nI (x8 + 1))) C zu_NU 0 rfl rfl 2 (by decide) zw_49 rfl rfl d_NU_passCode_18 ?_
    refine zx_iconst (pc := 21) C d_NU_passCode_21 (v := (1 : Int32)) (by decide) ?_
    refine zx_aload_n (pc := 22) C d_NU_passCode_22 rfl 0 rfl ?_
    refine zx_get (pc := 23) (ci := 0) (Cn := R_NU) (T := T_NU) (N := 4) (v := .int (nI b8)) C zu_NU 0 rfl rfl 1 (by decide) zw_48 rfl rfl d_NU_passCode_23 ?_
    refine zx_ishl (pc := 26) C d_NU_passCode_26 ?_
    refine zx_seti (nI (2 ^ b8)) (e26 c4) ?_
    refine zx_icmp_ne (pc := 27) C 49 d_NU_passCode_27 (by decide) (fun c27 => ?_) (fun c27 => ?_)
    · refine zx_aload_n (pc := 49) C d_NU_passCode_49 rfl 0 rfl ?_
      refine zx_iconst (pc := 50) C d_NU_passCode_50 (v := (0 : Int32)) (by decide) ?_
      refine zx_put (pc := 51) (ci := 0) (Cn := R_NU) (T := T_NU) (N := 4) (v := .int (0 : Int32)) (ty := .boolean) (ws' := [(a, .inr (0, [.int m9, .int (nI b8), .int (nI (x8 + 1)), .int (0 : Int32)]))]) C zu_NU ty_NU tyk_NU nm_NU 0 rfl rfl 3 (by decide) zw_52 rfl rfl (by decide +kernel) (by decide) (by decide) (Nat.le_of_ble_eq_true rfl) rfl d_NU_passCode_51 ?_
      exact zx_vret (pc := 54) C hr9 hlk9 (Nat.zero_le _) (Nat.zero_le _) d_NU_passCode_54 (r54_2 c4 c27)
    · refine zx_aload_n (pc := 30) C d_NU_passCode_30 rfl 0 rfl ?_
      refine zx_get (pc := 31) (ci := 0) (Cn := R_NU) (T := T_NU) (N := 4) (v := .int (nI b8)) C zu_NU 0 rfl rfl 1 (by decide) zw_48 rfl rfl d_NU_passCode_31 ?_
      refine zx_bipush (pc := 34) C d_NU_passCode_34 (v := (12 : Int32)) (by decide) ?_
      refine zx_icmp_ge (pc := 36) C 49 d_NU_passCode_36 (by decide) (fun c36 => ?_) (fun c36 => ?_)
      · refine zx_aload_n (pc := 49) C d_NU_passCode_49 rfl 0 rfl ?_
        refine zx_iconst (pc := 50) C d_NU_passCode_50 (v := (0 : Int32)) (by decide) ?_
        refine zx_put (pc := 51) (ci := 0) (Cn := R_NU) (T := T_NU) (N := 4) (v := .int (0 : Int32)) (ty := .boolean) (ws' := [(a, .inr (0, [.int m9, .int (nI b8), .int (nI (x8 + 1)), .int (0 : Int32)]))]) C zu_NU ty_NU tyk_NU nm_NU 0 rfl rfl 3 (by decide) zw_52 rfl rfl (by decide +kernel) (by decide) (by decide) (Nat.le_of_ble_eq_true rfl) rfl d_NU_passCode_51 ?_
        exact zx_vret (pc := 54) C hr9 hlk9 (Nat.zero_le _) (Nat.zero_le _) d_NU_passCode_54 (r54_3 c4 c27 c36)
      · refine zx_aload_n (pc := 39) C d_NU_passCode_39 rfl 0 rfl ?_
        refine zx_dup (pc := 40) C d_NU_passCode_40 rfl ?_
        refine zx_get (pc := 41) (ci := 0) (Cn := R_NU) (T := T_NU) (N := 4) (v := .int (nI b8)) C zu_NU 0 rfl rfl 1 (by decide) zw_48 rfl rfl d_NU_passCode_41 ?_
        refine zx_iconst (pc := 44) C d_NU_passCode_44 (v := (1 : Int32)) (by decide) ?_
        refine zx_iadd (pc := 45) C d_NU_passCode_45 ?_
        refine zx_seti (nI (b8 + 1)) (e45 c4 c27 c36) ?_
        refine zx_put (pc := 46) (ci := 0) (Cn := R_NU) (T := T_NU) (N := 4) (v := .int (nI (b8 + 1))) (ty := .int) (ws' := [(a, .inr (0, [.int m9, .int (nI (b8 + 1)), .int (nI (x8 + 1)), .int (zb f8)]))]) C zu_NU ty_NU tyk_NU nm_NU 0 rfl rfl 1 (by decide) zw_48 rfl rfl (by decide +kernel) rfl rfl (Nat.le_of_ble_eq_true rfl) rfl d_NU_passCode_46 ?_
        refine zx_aload_n (pc := 49) C d_NU_passCode_49 rfl 0 rfl ?_
        refine zx_iconst (pc := 50) C d_NU_passCode_50 (v := (0 : Int32)) (by decide) ?_
        refine zx_put (pc := 51) (ci := 0) (Cn := R_NU) (T := T_NU) (N := 4) (v := .int (0 : Int32)) (ty := .boolean) (ws' := [(a, .inr (0, [.int m9, .int (nI (b8 + 1)), .int (nI (x8 + 1)), .int (0 : Int32)]))]) C zu_NU ty_NU tyk_NU nm_NU 0 rfl rfl 3 (by decide) zw_52 rfl rfl (by decide +kernel) (by decide) (by decide) (Nat.le_of_ble_eq_true rfl) rfl d_NU_passCode_51 ?_
        exact zx_vret (pc := 54) C hr9 hlk9 (Nat.zero_le _) (Nat.zero_le _) d_NU_passCode_54 (r54_4 c4 c27 c36)

/-- the numbers behind a code: next row, bits -/
def zn_x (x : Nat) (f : Bool) : Nat := if f = false ∧ x < 4096 then x + 1 else x
def zn_b (b x : Nat) (f : Bool) : Nat := if f = false ∧ x < 4096 ∧ x + 1 = 2 ^ b ∧ b < 12 then b + 1 else b
theorem k_NU_passCode (l : Launch) (D : va_G) (cB cI cL : ClassId) (a b x : Nat) (m9 : Int32) (f : Bool) (hb : b < 16) (hx : x ≤ 4096) : zx_K l zB D zcl (zt cB cI cL) y_NU_passCode b_NU_passCode 1 (none) [] 0 0 (zr 2 0 0) [.ref a] [(a, .inr (0, [.int m9, .int (nI b), .int (nI x), .int (zb f)]))] (fun o w => o = .returned none ∧ w = [(a, .inr (0, [.int m9, .int (nI (zn_b b x f)), .int (nI (zn_x x f)), .int 0]))]) := by
  refine zx_K.mk (Nat.le_of_ble_eq_true rfl) (fun p e s mm below meth c C hr hlk ht hn => ?_)
  have hx1 : x < 2 ^ 31 := by omega
  have hx2 : x + 1 < 2 ^ 31 := by omega
  have hp := zp_pow hb
  have hn : ∀ {q : Bool}, ¬ zb q = 0 → q = true := fun {q} h => by
    cases q with
    | false => exact absurd rfl h
    | true => rfl
  have key : ¬ zb (!f && decide (x < 4096)) = 0 → f = false ∧ x < 4096 := fun h => by
    have h1 := hn h
    simp only [Bool.and_eq_true, Bool.not_eq_true', decide_eq_true_eq] at h1
    exact h1
  refine sg_NU_pass C hx1 hr hlk ?_ (fun _ => nI_1 x) (fun _ => zp_shl1 b hb) ?_ ?_ (fun _ _ _ => nI_1 b) ?_
  · intro h
    have h1 := zb_0.mp h
    have h2 : ¬ (f = false ∧ x < 4096) := fun q => by
      rw [q.1, decide_eq_true q.2] at h1
      cases h1
    refine ⟨rfl, ?_⟩
    rw [zn_x, if_neg h2, zn_b, if_neg (fun q => h2 ⟨q.1, q.2.1⟩)]
  · intro h h2
    obtain ⟨g1, g2⟩ := key h
    have h3 : ¬ x + 1 = 2 ^ b := fun q => h2 (by rw [q])
    refine ⟨rfl, ?_⟩
    rw [zn_x, if_pos ⟨g1, g2⟩, zn_b, if_neg (fun q => h3 q.2.2.1)]
  · intro h h2 h3
    obtain ⟨g1, g2⟩ := key h
    have h4 : 12 ≤ b := (zp_ge (K := 12) rfl (by omega) (by decide)).mp h3
    refine ⟨rfl, ?_⟩
    rw [zn_x, if_pos ⟨g1, g2⟩, zn_b, if_neg (fun q => absurd q.2.2.2 (by omega))]
  · intro h h2 h3
    obtain ⟨g1, g2⟩ := key h
    have h4 : ¬ 12 ≤ b := fun q => h3 ((zp_ge (K := 12) rfl (by omega) (by decide)).mpr q)
    have h5 : x + 1 = 2 ^ b := (nI_eq hx2 hp).mp h2
    refine ⟨rfl, ?_⟩
    rw [zn_x, if_pos ⟨g1, g2⟩, zn_b, if_pos ⟨g1, g2, h5, by omega⟩]
end
section
/-- the byte of a number -/
def zby (k : Nat) : Int32 := (nI k).toInt8.toInt32
theorem zby_nar (k : Nat) : vp_nar .byte (zby k) = zby k := pk_vb _
theorem zby_add (k c : Nat) : zby (k + 256 * c) = zby k := by
  unfold zby nI
  congr 1
  apply Int8.toBitVec_inj.mp
  apply BitVec.eq_of_toNat_eq
  simp
/-- the sink holds the number V of P bits: n whole bytes in f, v of wb bits waiting -/
def zS (f : Nat → Int32) (n v wb V P : Nat) : Prop := P = 8 * n + wb ∧ v = V / 256 ^ n ∧ V < 2 ^ P ∧ (∀ j, j < n → f j = zby (V / 256 ^ j)) ∧ ∀ j, vp_nar .byte (f j) = f j
theorem zS_v {f : Nat → Int32} {n v wb V P : Nat} (h : zS f n v wb V P) : v < 2 ^ wb := by
  obtain ⟨h1, h2, h3, -⟩ := h
  rw [h2]
  refine Nat.div_lt_of_lt_mul ?_
  rw [show (256 : Nat) = 2 ^ 8 from rfl, ← Nat.pow_mul, ← Nat.pow_add, ← h1]
  exact h3
theorem zS_step {f : Nat → Int32} {n v wb V P : Nat} (h : zS f n v wb V P) (hw : 8 ≤ wb) : zS (upd f n (zby v)) (n + 1) (v / 256) (wb - 8) V P := by
  obtain ⟨h1, h2, h3, h4, h5⟩ := h
  refine ⟨by omega, ?_, h3, fun j hj => ?_, fun j => ?_⟩
  · rw [h2, Nat.div_div_eq_div_mul, Nat.pow_succ]
  · by_cases q : j = n
    · rw [q, pk_us, h2]
    · rw [pk_un q]; exact h4 j (by omega)
  · by_cases q : j = n
    · rw [q, pk_us]; exact zby_nar v
    · rw [pk_un q]; exact h5 j
theorem zS_put {f : Nat → Int32} {n v wb V P : Nat} (h : zS f n v wb V P) {c k : Nat} (hc : c < 2 ^ k) : zS f n (v + c * 2 ^ wb) (wb + k) (V + c * 2 ^ P) (P + k) := by
  have hv := zS_v h
  obtain ⟨h1, h2, h3, h4, h5⟩ := h
  have e1 : (256 : Nat) ^ n * 2 ^ wb = 2 ^ P := by rw [show (256 : Nat) = 2 ^ 8 from rfl, ← Nat.pow_mul, ← Nat.pow_add, ← h1]
  refine ⟨by omega, ?_, ?_, fun j hj => ?_, h5⟩
  · have e3 : c * (256 ^ n * 2 ^ wb) = 256 ^ n * (c * 2 ^ wb) := Nat.mul_left_comm ..
    rw [h2, ← e1, e3, Nat.add_mul_div_left _ _ (Nat.pow_pos (by decide : 0 < 256))]
  · calc V + c * 2 ^ P < 2 ^ P + c * 2 ^ P := by omega
      _ = (c + 1) * 2 ^ P := by rw [Nat.add_mul, Nat.one_mul, Nat.add_comm]
      _ ≤ 2 ^ k * 2 ^ P := Nat.mul_le_mul_right _ hc
      _ = 2 ^ (P + k) := by rw [← Nat.pow_add, Nat.add_comm]
  · rw [h4 j hj]
    have e2 : 2 ^ P = 256 ^ j * (256 * 2 ^ (P - 8 * (j + 1))) := by
      rw [show (256 : Nat) = 2 ^ 8 from rfl, ← Nat.pow_mul, ← Nat.pow_add, ← Nat.pow_add]
      congr 1
      omega
    have e3 : c * (256 ^ j * (256 * 2 ^ (P - 8 * (j + 1)))) = 256 ^ j * (256 * (c * 2 ^ (P - 8 * (j + 1)))) := by rw [Nat.mul_left_comm, Nat.mul_left_comm c]
    rw [e2, e3, Nat.add_mul_div_left _ _ (Nat.pow_pos (by decide : 0 < 256))]
    exact (zby_add _ _).symm
theorem zS_0 {f : Nat → Int32} (h : ∀ j, vp_nar .byte (f j) = f j) : zS f 0 0 0 0 0 := ⟨rfl, rfl, by decide, fun j hj => absurd hj (Nat.not_lt_zero _), h⟩
theorem zp_or {v c wb : Nat} (hv : v < 2 ^ wb) (hwb : wb < 16) : nI v ||| (nI c <<< (nI wb &&& 31)) = nI (v + c * 2 ^ wb) := by
  have h1 : nI c <<< (nI wb &&& 31) = nI (c * 2 ^ wb) := by
    have h2 : ∀ k, k < 16 → ((nI k &&& 31).toBitVec.smod 32).toNat = k := by decide +kernel
    unfold nI
    apply Int32.toBitVec_inj.mp
    apply BitVec.eq_of_toNat_eq
    have h3 := pk_shl (nI c) (nI wb &&& 31) wb (h2 wb hwb)
    unfold nI at h3
    rw [h3]
    simp [Nat.mul_mod]
  rw [h1]
  unfold nI
  apply Int32.toBitVec_inj.mp
  apply BitVec.eq_of_toNat_eq
  simp only [Int32.toBitVec_or, BitVec.toNat_or, Int32.toBitVec_ofNat', BitVec.toNat_ofNat]
  rw [← Nat.or_mod_two_pow, Nat.mul_comm c, Nat.or_comm, ← Nat.two_pow_add_eq_or_of_lt hv, Nat.add_comm]
set_option maxRecDepth 100000 in
set_option maxHeartbeats 4000000 in
theorem sg_BS_init {p : Program} {l : Launch} {e : Env} {s : State} {mi : MethodId} {args : Array Value} {below : List Frame} {meth : Method} {co : Code} {D : va_G} {cB cI cL : ClassId} {w0 : va_W} {kr nr : Nat} {post : Outcome → va_W → Prop} (C : zx_C p s mi args co b_BS_init 1 R_BS zB D zcl (zt cB cI cL) (va_A w0 s.heap.size)) {a : Nat} {n9 w9 v9 : Int32} (hr9 : meth.sig.returnType = none) (hlk9 : meth.locks = false) (hkr9 : 1 ≤ kr) (hnr9 : 0 ≤ nr) (hnm9 : meth.name = "<init>") (r26 : ∀ q6 : Nat, post (.returned none) [(a, .inr (1, [.ref q6, .int (0 : Int32), .int (0 : Int32), .int (0 : Int32)])), (q6, .inl (cB, 0, .inl (fun _ => 0)))]) : zx_At p l e (zr 1 1 0) s mi args below meth co (zx_Q below s D zcl w0 kr nr (zr 1 1 0) post) D zcl (va_A w0 s.heap.size) 1 [(0, .ref a)] [(a, .inr (1, [.null, .int n9, .int w9, .int v9]))] 0 0 0 [] := by
  refine zx_aload_n (pc := 0) C d_BS_init_0 rfl 0 rfl ?_
  refine zx_objInit (pc := 1) C zw_99 zw_31 zw_32 d_BS_init_1 (Nat.le_of_ble_eq_true rfl) (Nat.le_of_ble_eq_true rfl) ?_
  refine zx_aload_n (pc := 4) C d_BS_init_4 rfl 0 rfl ?_
  refine zx_iconst (pc := 5) C d_BS_init_5 (v := (0 : Int32)) (by decide) ?_
  refine zx_newa (pc := 6) (ty := .byte) (N := 0) (a0 := (0, .inl (fun _ => 0))) C rfl (by simp) zw_62 0 rfl (fun _ => rfl) (by decide) (by decide) (by decide) (Nat.le_of_ble_eq_true rfl) (Nat.le_of_ble_eq_true rfl) d_BS_init_6 (fun q6 => ?_)
  show zx_At p l e (zr 1 1 0) s mi args below meth co (zx_Q below s D zcl w0 kr nr (zr 1 1 0) post) D zcl (va_A w0 s.heap.size) 1 [(0, .ref a)] [(a, .inr (1, [.null, .int n9, .int w9, .int v9])), (q6, .inl (cB, 0, .inl (fun _ => 0)))] 1 0 8 [.ref q6, .ref a]
  refine zx_put (pc := 8) (ci := 1) (Cn := R_BS) (T := T_BS) (N := 4) (v := .ref q6) (ty := .array .byte) (ws' := [(a, .inr (1, [.ref q6, .int n9, .int w9, .int v9])), (q6, .inl (cB, 0, .inl (fun _ => 0)))]) C zu_BS ty_BS tyk_BS nm_BS 0 rfl rfl 0 (by decide) zw_100 rfl rfl (by decide +kernel) rfl rfl (Nat.le_of_ble_eq_true rfl) rfl d_BS_init_8 ?_
  refine zx_aload_n (pc := 11) C d_BS_init_11 rfl 0 rfl ?_
  refine zx_iconst (pc := 12) C d_BS_init_12 (v := (0 : Int32)) (by decide) ?_
  refine zx_put (pc := 13) (ci := 1) (Cn := R_BS) (T := T_BS) (N := 4) (v := .int (0 : Int32)) (ty := .int) (ws' := [(a, .inr (1, [.ref q6, .int (0 : Int32), .int w9, .int v9])), (q6, .inl (cB, 0, .inl (fun _ => 0)))]) C zu_BS ty_BS tyk_BS nm_BS 0 rfl rfl 1 (by decide) zw_101 rfl rfl (by decide +kernel) rfl rfl (Nat.le_of_ble_eq_true rfl) rfl d_BS_init_13 ?_
  refine zx_aload_n (pc := 16) C d_BS_init_16 rfl 0 rfl ?_
  refine zx_iconst (pc := 17) C d_BS_init_17 (v := (0 : Int32)) (by decide) ?_
  refine zx_put (pc := 18) (ci := 1) (Cn := R_BS) (T := T_BS) (N := 4) (v := .int (0 : Int32)) (ty := .int) (ws' := [(a, .inr (1, [.ref q6, .int (0 : Int32), .int (0 : Int32), .int v9])), (q6, .inl (cB, 0, .inl (fun _ => 0)))]) C zu_BS ty_BS tyk_BS nm_BS 0 rfl rfl 2 (by decide) zw_102 rfl rfl (by decide +kernel) rfl rfl (Nat.le_of_ble_eq_true rfl) rfl d_BS_init_18 ?_
  refine zx_aload_n (pc := 21) C d_BS_init_21 rfl 0 rfl ?_
  refine zx_iconst (pc := 22) C d_BS_init_22 (v := (0 : Int32)) (by decide) ?_
  refine zx_put (pc := 23) (ci := 1) (Cn := R_BS) (T := T_BS) (N := 4) (v := .int (0 : Int32)) (ty := .int) (ws' := [(a, .inr (1, [.ref q6, .int (0 : Int32), .int (0 : Int32), .int (0 : Int32)])), (q6, .inl (cB, 0, .inl (fun _ => 0)))]) C zu_BS ty_BS tyk_BS nm_BS 0 rfl rfl 3 (by decide) zw_103 rfl rfl (by decide +kernel) rfl rfl (Nat.le_of_ble_eq_true rfl) rfl d_BS_init_23 ?_
  exact zx_vret (pc := 26) C hr9 hlk9 (Nat.le_trans (Nat.le_of_ble_eq_true rfl) hkr9) (Nat.zero_le _) d_BS_init_26 (r26 q6)

theorem k_BS_init (l : Launch) (D : va_G) (cB cI cL : ClassId) (a : Nat) (n9 w9 v9 : Int32) : zx_K l zB D zcl (zt cB cI cL) y_BS_init b_BS_init 1 (none) [] 1 0 (zr 1 1 0) [.ref a] [(a, .inr (1, [.null, .int n9, .int w9, .int v9]))] (fun o w => ∃ q : Nat, o = .returned none ∧ w = [(a, .inr (1, [.ref q, .int 0, .int 0, .int 0])), (q, .inl (cB, 0, .inl (fun _ => 0)))]) := by
  refine zx_K.mk (Nat.le_of_ble_eq_true rfl) (fun p e s mm below meth c C hr hlk ht hn => ?_)
  exact sg_BS_init C hr hlk (Nat.le_refl _) (Nat.le_refl _) hn (fun q => ⟨q, rfl, rfl⟩)
set_option maxRecDepth 100000 in
set_option maxHeartbeats 4000000 in
theorem sg_BS_startOn {p : Program} {l : Launch} {e : Env} {R : Room} {s : State} {mi : MethodId} {args : Array Value} {below : List Frame} {meth : Method} {co : Code} {D : va_G} {cB cI cL : ClassId} {w0 : va_W} {kr nr : Nat} {post : Outcome → va_W → Prop} (C : zx_C p s mi args co b_BS_startOn 2 R_BS zB D zcl (zt cB cI cL) (va_A w0 s.heap.size)) {a ab t9 : Nat} {n9 w9 v9 : Int32} (hr9 : meth.sig.returnType = none) (hlk9 : meth.locks = false) (r20 : post (.returned none) [(a, .inr (1, [.ref t9, .int (0 : Int32), .int (0 : Int32), .int (0 : Int32)]))]) : zx_At p l e R s mi args below meth co (zx_Q below s D zcl w0 kr nr R post) D zcl (va_A w0 s.heap.size) 2 [(0, .ref a), (1, .ref t9)] [(a, .inr (1, [.ref ab, .int n9, .int w9, .int v9]))] 0 0 0 [] := by
  refine zx_aload_n (pc := 0) C d_BS_startOn_0 rfl 0 rfl ?_
  refine zx_aload_n (pc := 1) C d_BS_startOn_1 rfl 1 rfl ?_
  refine zx_put (pc := 2) (ci := 1) (Cn := R_BS) (T := T_BS) (N := 4) (v := .ref t9) (ty := .array .byte) (ws' := [(a, .inr (1, [.ref t9, .int n9, .int w9, .int v9]))]) C zu_BS ty_BS tyk_BS nm_BS 0 rfl rfl 0 (by decide) zw_100 rfl rfl (by decide +kernel) rfl rfl (Nat.le_of_ble_eq_true rfl) rfl d_BS_startOn_2 ?_
  refine zx_aload_n (pc := 5) C d_BS_startOn_5 rfl 0 rfl ?_
  refine zx_iconst (pc := 6) C d_BS_startOn_6 (v := (0 : Int32)) (by decide) ?_
  refine zx_put (pc := 7) (ci := 1) (Cn := R_BS) (T := T_BS) (N := 4) (v := .int (0 : Int32)) (ty := .int) (ws' := [(a, .inr (1, [.ref t9, .int (0 : Int32), .int w9, .int v9]))]) C zu_BS ty_BS tyk_BS nm_BS 0 rfl rfl 1 (by decide) zw_101 rfl rfl (by decide +kernel) rfl rfl (Nat.le_of_ble_eq_true rfl) rfl d_BS_startOn_7 ?_
  refine zx_aload_n (pc := 10) C d_BS_startOn_10 rfl 0 rfl ?_
  refine zx_iconst (pc := 11) C d_BS_startOn_11 (v := (0 : Int32)) (by decide) ?_
  refine zx_put (pc := 12) (ci := 1) (Cn := R_BS) (T := T_BS) (N := 4) (v := .int (0 : Int32)) (ty := .int) (ws' := [(a, .inr (1, [.ref t9, .int (0 : Int32), .int (0 : Int32), .int v9]))]) C zu_BS ty_BS tyk_BS nm_BS 0 rfl rfl 2 (by decide) zw_102 rfl rfl (by decide +kernel) rfl rfl (Nat.le_of_ble_eq_true rfl) rfl d_BS_startOn_12 ?_
  refine zx_aload_n (pc := 15) C d_BS_startOn_15 rfl 0 rfl ?_
  refine zx_iconst (pc := 16) C d_BS_startOn_16 (v := (0 : Int32)) (by decide) ?_
  refine zx_put (pc := 17) (ci := 1) (Cn := R_BS) (T := T_BS) (N := 4) (v := .int (0 : Int32)) (ty := .int) (ws' := [(a, .inr (1, [.ref t9, .int (0 : Int32), .int (0 : Int32), .int (0 : Int32)]))]) C zu_BS ty_BS tyk_BS nm_BS 0 rfl rfl 3 (by decide) zw_103 rfl rfl (by decide +kernel) rfl rfl (Nat.le_of_ble_eq_true rfl) rfl d_BS_startOn_17 ?_
  exact zx_vret (pc := 20) C hr9 hlk9 (Nat.zero_le _) (Nat.zero_le _) d_BS_startOn_20 (r20)

theorem k_BS_startOn (l : Launch) (D : va_G) (cB cI cL : ClassId) (R : Room) (a ab t9 : Nat) (n9 w9 v9 : Int32) : zx_K l zB D zcl (zt cB cI cL) y_BS_startOn b_BS_startOn 2 (none) [] 0 0 R [.ref a, .ref t9] [(a, .inr (1, [.ref ab, .int n9, .int w9, .int v9]))] (fun o w => o = .returned none ∧ w = [(a, .inr (1, [.ref t9, .int (nI 0), .int (nI 0), .int (nI 0)]))]) := by
  refine zx_K.mk (Nat.le_of_ble_eq_true rfl) (fun p e s mm below meth c C hr hlk ht hn => ?_)
  exact sg_BS_startOn C hr hlk ⟨rfl, rfl⟩
set_option maxRecDepth 100000 in
set_option maxHeartbeats 4000000 in
theorem sg_BS_putByte {p : Program} {l : Launch} {e : Env} {s : State} {mi : MethodId} {args : Array Value} {below : List Frame} {meth : Method} {co : Code} {D : va_G} {cB cI cL : ClassId} {w0 : va_W} {kr nr : Nat} {post : Outcome → va_W → Prop} (C : zx_C p s mi args co b_BS_putByte 1 R_BS zB D zcl (zt cB cI cL) (va_A w0 s.heap.size)) {a ab : Nat} {v9 : Int32} {f : Nat → Int32} {n8 v8 : Nat} (hr9 : meth.sig.returnType = none) (hlk9 : meth.locks = false) (hl9 : l.stackTraces = false) (ht9 : co.exceptionTable.toList.map (fun h => (h.startPc, h.endPc, h.handlerPc, h.catchType)) = []) (e32 : ((nI n8) < (16384 : Int32)) → ((nI v8).toInt8.toInt32) = (zby v8)) (b33 : ((nI n8) < (16384 : Int32)) → (nI n8) = nI n8 ∧ n8 < 16384) (e40 : ((nI n8) < (16384 : Int32)) → ((nI n8) + (1 : Int32)) = (nI (n8 + 1))) (e51 : ((nI n8) < (16384 : Int32)) → (((nI v8).toUInt32 >>> ((8 : Int32).toUInt32 &&& Int32.toUInt32 31)).toInt32) = (nI (v8 / 256))) (r55 : ((nI n8) < (16384 : Int32)) → post (.returned none) [(a, .inr (1, [.ref ab, .int (nI (n8 + 1)), .int (nI (v8 / 256)), .int v9])), (ab, .inl (cB, 16384, .inl (upd f n8 (vp_nar .byte (zby v8)))))]) (t10 : (¬ (nI n8) < (16384 : Int32)) → ∀ x9 : Nat, post (.threw x9) [(a, .inr (1, [.ref ab, .int (nI n8), .int (nI v8), .int v9])), (ab, .inl (cB, 16384, .inl f)), (x9, .inr (8, []))]) : zx_At p l e (zr 8 1 6) s mi args below meth co (zx_Q below s D zcl w0 kr nr (zr 8 1 6) post) D zcl (va_A w0 s.heap.size) 1 [(0, .ref a)] [(a, .inr (1, [.ref ab, .int (nI n8), .int (nI v8), .int v9])), (ab, .inl (cB, 16384, .inl f))] 0 0 0 [] := by
  refine zx_aload_n (pc := 0) C d_BS_putByte_0 rfl 0 rfl ?_
  refine zx_get (pc := 1) (ci := 1) (Cn := R_BS) (T := T_BS) (N := 4) (v := .int (nI n8)) C zu_BS 0 rfl rfl 1 (by decide) zw_101 rfl rfl d_BS_putByte_1 ?_
  refine zx_sipush (pc := 4) C d_BS_putByte_4 (v := (16384 : Int32)) (by decide) ?_
  refine zx_icmp_lt (pc := 7) C 20 d_BS_putByte_7 (by decide) (fun c7 => ?_) (fun c7 => ?_)
  · refine zx_aload_n (pc := 20) C d_BS_putByte_20 rfl 0 rfl ?_
    refine zx_get (pc := 21) (ci := 1) (Cn := R_BS) (T := T_BS) (N := 4) (v := .ref ab) C zu_BS 0 rfl rfl 0 (by decide) zw_100 rfl rfl d_BS_putByte_21 ?_
    refine zx_aload_n (pc := 24) C d_BS_putByte_24 rfl 0 rfl ?_
    refine zx_get (pc := 25) (ci := 1) (Cn := R_BS) (T := T_BS) (N := 4) (v := .int (nI n8)) C zu_BS 0 rfl rfl 1 (by decide) zw_101 rfl rfl d_BS_putByte_25 ?_
    refine zx_aload_n (pc := 28) C d_BS_putByte_28 rfl 0 rfl ?_
    refine zx_get (pc := 29) (ci := 1) (Cn := R_BS) (T := T_BS) (N := 4) (v := .int (nI v8)) C zu_BS 0 rfl rfl 2 (by decide) zw_102 rfl rfl d_BS_putByte_29 ?_
    refine zx_i2b (pc := 32) C d_BS_putByte_32 rfl ?_
    refine zx_seti (zby v8) (e32 c7) ?_
    refine zx_bast (pc := 33) (ws' := [(a, .inr (1, [.ref ab, .int (nI n8), .int (nI v8), .int v9])), (ab, .inl (cB, 16384, .inl (upd f n8 (vp_nar .byte (zby v8)))))]) C 1 0 rfl rfl n8 (b33 c7).1 (b33 c7).2 (by decide) rfl d_BS_putByte_33 ?_
    refine zx_aload_n (pc := 34) C d_BS_putByte_34 rfl 0 rfl ?_
    refine zx_dup (pc := 35) C d_BS_putByte_35 rfl ?_
    refine zx_get (pc := 36) (ci := 1) (Cn := R_BS) (T := T_BS) (N := 4) (v := .int (nI n8)) C zu_BS 0 rfl rfl 1 (by decide) zw_101 rfl rfl d_BS_putByte_36 ?_
    refine zx_iconst (pc := 39) C d_BS_putByte_39 (v := (1 : Int32)) (by decide) ?_
    refine zx_iadd (pc := 40) C d_BS_putByte_40 ?_
    refine zx_seti (nI (n8 + 1)) (e40 c7) ?_
    refine zx_put (pc := 41) (ci := 1) (Cn := R_BS) (T := T_BS) (N := 4) (v := .int (nI (n8 + 1))) (ty := .int) (ws' := [(a, .inr (1, [.ref ab, .int (nI (n8 + 1)), .int (nI v8), .int v9])), (ab, .inl (cB, 16384, .inl (upd f n8 (vp_nar .byte (zby v8)))))]) C zu_BS ty_BS tyk_BS nm_BS 0 rfl rfl 1 (by decide) zw_101 rfl rfl (by decide +kernel) rfl rfl (Nat.le_of_ble_eq_true rfl) rfl d_BS_putByte_41 ?_
    refine zx_aload_n (pc := 44) C d_BS_putByte_44 rfl 0 rfl ?_
    refine zx_dup (pc := 45) C d_BS_putByte_45 rfl ?_
    refine zx_get (pc := 46) (ci := 1) (Cn := R_BS) (T := T_BS) (N := 4) (v := .int (nI v8)) C zu_BS 0 rfl rfl 2 (by decide) zw_102 rfl rfl d_BS_putByte_46 ?_
    refine zx_bipush (pc := 49) C d_BS_putByte_49 (v := (8 : Int32)) (by decide) ?_
    refine zx_iushr (pc := 51) C d_BS_putByte_51 rfl ?_
    refine zx_seti (nI (v8 / 256)) (e51 c7) ?_
    refine zx_put (pc := 52) (ci := 1) (Cn := R_BS) (T := T_BS) (N := 4) (v := .int (nI (v8 / 256))) (ty := .int) (ws' := [(a, .inr (1, [.ref ab, .int (nI (n8 + 1)), .int (nI (v8 / 256)), .int v9])), (ab, .inl (cB, 16384, .inl (upd f n8 (vp_nar .byte (zby v8)))))]) C zu_BS ty_BS tyk_BS nm_BS 0 rfl rfl 2 (by decide) zw_102 rfl rfl (by decide +kernel) rfl rfl (Nat.le_of_ble_eq_true rfl) rfl d_BS_putByte_52 ?_
    exact zx_vret (pc := 55) C hr9 hlk9 (Nat.zero_le _) (Nat.zero_le _) d_BS_putByte_55 (r55 c7)
  · exact zx_throwS (pc := 10) (names := zex) (ci := 8) C hl9 (by decide +kernel) zex_fit zw_383 zw_10 zw_384 zh_BS_32 rfl hlk9 (zx_noTab ht9 _) d_BS_putByte_10 d_BS_putByte_13 d_BS_putByte_14 d_BS_putByte_16 d_BS_putByte_19 (Nat.le_of_ble_eq_true rfl) (Nat.le_of_ble_eq_true rfl) (Nat.le_of_ble_eq_true rfl) (Nat.le_of_ble_eq_true rfl) (t10 c7)

theorem k_BS_putByte (l : Launch) (D : va_G) (cB cI cL : ClassId) (hl : l.stackTraces = false) (a ab n v : Nat) (v9 : Int32) (f : Nat → Int32) (hn : n ≤ 16384) (hv : v < 2 ^ 31) : zx_K l zB D zcl (zt cB cI cL) y_BS_putByte b_BS_putByte 1 (none) [] 0 0 (zr 8 1 6) [.ref a] [(a, .inr (1, [.ref ab, .int (nI n), .int (nI v), .int v9])), (ab, .inl (cB, 16384, .inl f))] (fun o w => (n < 16384 ∧ o = .returned none ∧ w = [(a, .inr (1, [.ref ab, .int (nI (n + 1)), .int (nI (v / 256)), .int v9])), (ab, .inl (cB, 16384, .inl (upd f n (zby v))))]) ∨ (16384 ≤ n ∧ ∃ x : Nat, o = .threw x ∧ w = [(a, .inr (1, [.ref ab, .int (nI n), .int (nI v), .int v9])), (ab, .inl (cB, 16384, .inl f)), (x, .inr (8, []))])) := by
  refine zx_K.mk (Nat.le_of_ble_eq_true rfl) (fun p e s mm below meth c C hr hlk ht hnm => ?_)
  have key : nI n < (16384 : Int32) ↔ n < 16384 := zp_lt rfl (by omega) (by decide)
  refine sg_BS_putByte C hr hlk hl ht (fun _ => rfl) (fun h => ⟨rfl, key.mp h⟩) (fun _ => nI_1 n) (fun _ => ?_) (fun h => Or.inl ⟨key.mp h, rfl, by rw [zby_nar]⟩) (fun h x => Or.inr ⟨?_, x, rfl, rfl⟩)
  · exact pk_ushrN (n := v) (by omega) 8 8 (by decide)
  · have h2 : ¬ n < 16384 := fun q => h (key.mpr q)
    omega
set_option maxRecDepth 100000 in
set_option maxHeartbeats 4000000 in
theorem sg_BS_finish {p : Program} {l : Launch} {e : Env} {s : State} {mi : MethodId} {args : Array Value} {below : List Frame} {meth : Method} {co : Code} {D : va_G} {cB cI cL : ClassId} {w0 : va_W} {kr nr : Nat} {post : Outcome → va_W → Prop} (C : zx_C p s mi args co b_BS_finish 1 R_BS zB D zcl (zt cB cI cL) (va_A w0 s.heap.size)) {a ab : Nat} {f : Nat → Int32} {n8 v8 b8 : Nat} (hn8 : n8 ≤ 16384) (hv8 : v8 < 2 ^ 31) (hr9 : meth.sig.returnType = some .int) (hlk9 : meth.locks = false) (hl9 : l.stackTraces = false) (ht9 : co.exceptionTable.toList.map (fun h => (h.startPc, h.endPc, h.handlerPc, h.catchType)) = []) (r20 : ((nI b8) ≤ 0) → post (.returned (some (.int (nI n8)))) [(a, .inr (1, [.ref ab, .int (nI n8), .int (nI v8), .int (nI b8)])), (ab, .inl (cB, 16384, .inl f))]) (r20_2 : (¬ (nI b8) ≤ 0) → (n8 < 16384) → post (.returned (some (.int (nI (n8 + 1))))) [(a, .inr (1, [.ref ab, .int (nI (n8 + 1)), .int (nI (v8 / 256)), .int (0 : Int32)])), (ab, .inl (cB, 16384, .inl (upd f n8 (zby v8))))]) (t8 : (¬ (nI b8) ≤ 0) → (16384 ≤ n8) → ∀ x9 : Nat, post (.threw x9) [(a, .inr (1, [.ref ab, .int (nI n8), .int (nI v8), .int (nI b8)])), (ab, .inl (cB, 16384, .inl f)), (x9, .inr (8, []))]) : zx_At p l e (zr 9 1 6) s mi args below meth co (zx_Q below s D zcl w0 kr nr (zr 9 1 6) post) D zcl (va_A w0 s.heap.size) 1 [(0, .ref a)] [(a, .inr (1, [.ref ab, .int (nI n8), .int (nI v8), .int (nI b8)])), (ab, .inl (cB, 16384, .inl f))] 0 0 0 [] := by
  refine zx_aload_n (pc := 0) C d_BS_finish_0 rfl 0 rfl ?_
  refine zx_get (pc := 1) (ci := 1) (Cn := R_BS) (T := T_BS) (N := 4) (v := .int (nI b8)) C zu_BS 0 rfl rfl 3 (by decide) zw_103 rfl rfl d_BS_finish_1 ?_
  refine zx_if_le (pc := 4) C 16 d_BS_finish_4 (by decide) (fun c4 => ?_) (fun c4 => ?_)
  · refine zx_aload_n (pc := 16) C d_BS_finish_16 rfl 0 rfl ?_
    refine zx_get (pc := 17) (ci := 1) (Cn := R_BS) (T := T_BS) (N := 4) (v := .int (nI n8)) C zu_BS 0 rfl rfl 1 (by decide) zw_101 rfl rfl d_BS_finish_17 ?_
    exact zx_iret (pc := 20) C hr9 hlk9 (Nat.zero_le _) (Nat.zero_le _) d_BS_finish_20 (r20 c4)
  · refine zx_aload_n (pc := 7) C d_BS_finish_7 rfl 0 rfl ?_
    refine zx_callV (pc := 8) (ix := 25) (As := []) (b := a) (q0 := 0) (wr := []) (st := []) C (zx_cw.of (C.w zw_382)) (by decide +kernel) ⟨by decide +kernel, by decide +kernel⟩ zw_381 zs_BS_putByte zw_379 rfl rfl rfl rfl rfl (k_BS_putByte l D cB cI cL hl9 a ab n8 v8 (nI b8) f hn8 hv8) rfl [0, 1] [] rfl rfl (by decide) (by decide) (by decide) (Nat.le_of_ble_eq_true rfl) (Nat.le_of_ble_eq_true rfl) (Nat.le_of_ble_eq_true rfl) (Nat.le_of_ble_eq_true rfl) d_BS_finish_8 (fun o w1 hp => ?_)
    rcases hp with ⟨hc8, rfl, rfl⟩ | ⟨hc8, x9, rfl, rfl⟩
    · refine zx_rv (k2 := 0) (n2 := 0) rfl rfl ?_
      refine zx_ws (ws' := [(a, .inr (1, [.ref ab, .int (nI (n8 + 1)), .int (nI (v8 / 256)), .int (nI b8)])), (ab, .inl (cB, 16384, .inl (upd f n8 (zby v8))))]) [0, 1] (by decide) rfl ?_
      refine zx_aload_n (pc := 11) C d_BS_finish_11 rfl 0 rfl ?_
      refine zx_iconst (pc := 12) C d_BS_finish_12 (v := (0 : Int32)) (by decide) ?_
      refine zx_put (pc := 13) (ci := 1) (Cn := R_BS) (T := T_BS) (N := 4) (v := .int (0 : Int32)) (ty := .int) (ws' := [(a, .inr (1, [.ref ab, .int (nI (n8 + 1)), .int (nI (v8 / 256)), .int (0 : Int32)])), (ab, .inl (cB, 16384, .inl (upd f n8 (zby v8))))]) C zu_BS ty_BS tyk_BS nm_BS 0 rfl rfl 3 (by decide) zw_103 rfl rfl (by decide +kernel) rfl rfl (Nat.le_of_ble_eq_true rfl) rfl d_BS_finish_13 ?_
      refine zx_aload_n (pc := 16) C d_BS_finish_16 rfl 0 rfl ?_
      refine zx_get (pc := 17) (ci := 1) (Cn := R_BS) (T := T_BS) (N := 4) (v := .int (nI (n8 + 1))) C zu_BS 0 rfl rfl 1 (by decide) zw_101 rfl rfl d_BS_finish_17 ?_
      exact zx_iret (pc := 20) C hr9 hlk9 (Nat.zero_le _) (Nat.zero_le _) d_BS_finish_20 (r20_2 c4 hc8)
    · exact zx_rt (k2 := 1) (n2 := 6) rfl rfl (zx_leave hlk9 (zx_noTab ht9 _) (Nat.le_of_ble_eq_true rfl) (Nat.le_of_ble_eq_true rfl) (t8 c4 hc8 x9))

/-- what finish gives: all bytes, or too many -/
def zp_fin (a ab V P : Nat) (cB : ClassId) : Outcome → va_W → Prop := fun o w =>
  (∃ (f : Nat → Int32) (w1 w2 : Int32), ((((P + 7) / 8 ≤ 16384) ∧ ∀ j, j < (P + 7) / 8 → f j = zby (V / 256 ^ j)) ∧ ∀ j, vp_nar .byte (f j) = f j) ∧ o = .returned (some (.int (nI ((P + 7) / 8)))) ∧ w = [(a, .inr (1, [.ref ab, .int (nI ((P + 7) / 8)), .int w1, .int w2])), (ab, .inl (cB, 16384, .inl f))]) ∨
  (∃ (f : Nat → Int32) (w0 w1 w2 : Int32), (16384 < (P + 7) / 8 ∧ ∀ j, vp_nar .byte (f j) = f j) ∧ ∃ x : Nat, o = .threw x ∧ w = [(a, .inr (1, [.ref ab, .int w0, .int w1, .int w2])), (ab, .inl (cB, 16384, .inl f)), (x, .inr (8, []))])
theorem k_BS_finish (l : Launch) (D : va_G) (cB cI cL : ClassId) (hl : l.stackTraces = false) (a ab n v b V P : Nat) (f : Nat → Int32) (h : zS f n v b V P) (hb : b < 8) (hn : n ≤ 16384) : zx_K l zB D zcl (zt cB cI cL) y_BS_finish b_BS_finish 1 (some .int) [] 0 0 (zr 9 1 6) [.ref a] [(a, .inr (1, [.ref ab, .int (nI n), .int (nI v), .int (nI b)])), (ab, .inl (cB, 16384, .inl f))] (zp_fin a ab V P cB) := by
  refine zx_K.mk (Nat.le_of_ble_eq_true rfl) (fun p e s mm below meth c C hr hlk ht hnm => ?_)
  have hv := zS_v h
  have hv2 : v < 2 ^ 31 := Nat.lt_trans hv (zp_pow (by omega))
  have key : nI b ≤ (0 : Int32) ↔ b ≤ 0 := zp_le rfl (by omega) (by decide)
  have h1 := h.1
  refine sg_BS_finish C hn hv2 hr hlk hl ht ?_ ?_ ?_
  · intro q
    have q2 := key.mp q
    have e1 : (P + 7) / 8 = n := by omega
    refine Or.inl ⟨f, nI v, nI b, ⟨⟨by omega, fun j hj => h.2.2.2.1 j (by omega)⟩, h.2.2.2.2⟩, by rw [e1], by rw [e1]⟩
  · intro q q3
    have q2 : ¬ b ≤ 0 := fun z => q (key.mpr z)
    have e1 : (P + 7) / 8 = n + 1 := by omega
    refine Or.inl ⟨upd f n (zby v), nI (v / 256), 0, ⟨⟨by omega, fun j hj => ?_⟩, fun j => ?_⟩, by rw [e1], by rw [e1]⟩
    · by_cases z : j = n
      · rw [z, pk_us, h.2.1]
      · rw [pk_un z]; exact h.2.2.2.1 j (by omega)
    · by_cases z : j = n
      · rw [z, pk_us]; exact zby_nar v
      · rw [pk_un z]; exact h.2.2.2.2 j
  · intro q q3 x
    have q2 : ¬ b ≤ 0 := fun z => q (key.mpr z)
    exact Or.inr ⟨f, nI n, nI v, nI b, ⟨by omega, h.2.2.2.2⟩, x, rfl, rfl⟩
set_option maxRecDepth 100000 in
set_option maxHeartbeats 4000000 in
theorem sg_BS_put {p : Program} {l : Launch} {e : Env} {s : State} {mi : MethodId} {args : Array Value} {below : List Frame} {meth : Method} {co : Code} {D : va_G} {cB cI cL : ClassId} {Q : State → Prop} {A : Nat → Prop} (C : zx_C p s mi args co b_BS_put 3 R_BS zB D zcl (zt cB cI cL) A) {a ab : Nat} {f : Nat → Int32} {n8 v8 b8 c8 k8 : Nat} (e11 : ((nI v8) ||| ((nI c8) <<< ((nI b8) &&& 31))) = (nI (v8 + c8 * 2 ^ b8))) (e21 : ((nI b8) + (nI k8)) = (nI (b8 + k8))) (k25 : zx_At p l e (zr 9 1 6) s mi args below meth co Q D zcl A 3 [(0, .ref a), (1, .int (nI c8)), (2, .int (nI k8))] [(a, .inr (1, [.ref ab, .int (nI n8), .int (nI (v8 + c8 * 2 ^ b8)), .int (nI (b8 + k8))])), (ab, .inl (cB, 16384, .inl f))] 0 0 25 []) : zx_At p l e (zr 9 1 6) s mi args below meth co Q D zcl A 3 [(0, .ref a), (1, .int (nI c8)), (2, .int (nI k8))] [(a, .inr (1, [.ref ab, .int (nI n8), .int (nI v8), .int (nI b8)])), (ab, .inl (cB, 16384, .inl f))] 0 0 0 [] := by
  refine zx_aload_n (pc := 0) C d_BS_put_0 rfl 0 rfl ?_
  refine zx_dup (pc := 1) C d_BS_put_1 rfl ?_
  refine zx_get (pc := 2) (ci := 1) (Cn := R_BS) (T := T_BS) (N := 4) (v := .int (nI v8)) C zu_BS 0 rfl rfl 2 (by decide) zw_102 rfl rfl d_BS_put_2 ?_
  refine zx_iload_n (pc := 5) C d_BS_put_5 rfl 1 rfl ?_
  refine zx_aload_n (pc := 6) C d_BS_put_6 rfl 0 rfl ?_
  refine zx_get (pc := 7) (ci := 1) (Cn := R_BS) (T := T_BS) (N := 4) (v := .int (nI b8)) C zu_BS 0 rfl rfl 3 (by decide) zw_103 rfl rfl d_BS_put_7 ?_
  refine zx_ishl (pc := 10) C d_BS_put_10 ?_
  refine zx_ior (pc := 11) C d_BS_put_11 ?_
  refine zx_seti (nI (v8 + c8 * 2 ^ b8)) (e11) ?_
  refine zx_put (pc := 12) (ci := 1) (Cn := R_BS) (T := T_BS) (N := 4) (v := .int (nI (v8 + c8 * 2 ^ b8))) (ty := .int) (ws' := [(a, .inr (1, [.ref ab, .int (nI n8), .int (nI (v8 + c8 * 2 ^ b8)), .int (nI b8)])), (ab, .inl (cB, 16384, .inl f))]) C zu_BS ty_BS tyk_BS nm_BS 0 rfl rfl 2 (by decide) zw_102 rfl rfl (by decide +kernel) rfl rfl (Nat.le_of_ble_eq_true rfl) rfl d_BS_put_12 ?_
  refine zx_aload_n (pc := 15) C d_BS_put_15 rfl 0 rfl ?_
  refine zx_dup (pc := 16) C d_BS_put_16 rfl ?_
  refine zx_get (pc := 17) (ci := 1) (Cn := R_BS) (T := T_BS) (N := 4) (v := .int (nI b8)) C zu_BS 0 rfl rfl 3 (by decide) zw_103 rfl rfl d_BS_put_17 ?_
  refine zx_iload_n (pc := 20) C d_BS_put_20 rfl 2 rfl ?_
  refine zx_iadd (pc := 21) C d_BS_put_21 ?_
  refine zx_seti (nI (b8 + k8)) (e21) ?_
  refine zx_put (pc := 22) (ci := 1) (Cn := R_BS) (T := T_BS) (N := 4) (v := .int (nI (b8 + k8))) (ty := .int) (ws' := [(a, .inr (1, [.ref ab, .int (nI n8), .int (nI (v8 + c8 * 2 ^ b8)), .int (nI (b8 + k8))])), (ab, .inl (cB, 16384, .inl f))]) C zu_BS ty_BS tyk_BS nm_BS 0 rfl rfl 3 (by decide) zw_103 rfl rfl (by decide +kernel) rfl rfl (Nat.le_of_ble_eq_true rfl) rfl d_BS_put_22 ?_
  exact k25

set_option maxRecDepth 100000 in
set_option maxHeartbeats 4000000 in
theorem sg_BS_put25 {p : Program} {l : Launch} {e : Env} {s : State} {mi : MethodId} {args : Array Value} {below : List Frame} {meth : Method} {co : Code} {D : va_G} {cB cI cL : ClassId} {w0 : va_W} {kr nr : Nat} {post : Outcome → va_W → Prop} (C : zx_C p s mi args co b_BS_put 3 R_BS zB D zcl (zt cB cI cL) (va_A w0 s.heap.size)) {a ab : Nat} {c9 k9 : Int32} {f : Nat → Int32} {n8 v8 b8 : Nat} (hn8 : n8 ≤ 16384) (hv8 : v8 < 2 ^ 31) (hr9 : meth.sig.returnType = none) (hlk9 : meth.locks = false) (hl9 : l.stackTraces = false) (ht9 : co.exceptionTable.toList.map (fun h => (h.startPc, h.endPc, h.handlerPc, h.catchType)) = []) (r52 : ((nI b8) < (8 : Int32)) → post (.returned none) [(a, .inr (1, [.ref ab, .int (nI n8), .int (nI v8), .int (nI b8)])), (ab, .inl (cB, 16384, .inl f))]) (e45 : (¬ (nI b8) < (8 : Int32)) → (n8 < 16384) → ((nI b8) - (8 : Int32)) = (nI (b8 - 8))) (k25 : (¬ (nI b8) < (8 : Int32)) → (n8 < 16384) → zx_At p l e (zr 9 1 6) s mi args below meth co (zx_Q below s D zcl w0 kr nr (zr 9 1 6) post) D zcl (va_A w0 s.heap.size) 3 [(0, .ref a), (1, .int c9), (2, .int k9)] [(a, .inr (1, [.ref ab, .int (nI (n8 + 1)), .int (nI (v8 / 256)), .int (nI (b8 - 8))])), (ab, .inl (cB, 16384, .inl (upd f n8 (zby v8))))] 0 0 25 []) (t35 : (¬ (nI b8) < (8 : Int32)) → (16384 ≤ n8) → ∀ x9 : Nat, post (.threw x9) [(a, .inr (1, [.ref ab, .int (nI n8), .int (nI v8), .int (nI b8)])), (ab, .inl (cB, 16384, .inl f)), (x9, .inr (8, []))]) : zx_At p l e (zr 9 1 6) s mi args below meth co (zx_Q below s D zcl w0 kr nr (zr 9 1 6) post) D zcl (va_A w0 s.heap.size) 3 [(0, .ref a), (1, .int c9), (2, .int k9)] [(a, .inr (1, [.ref ab, .int (nI n8), .int (nI v8), .int (nI b8)])), (ab, .inl (cB, 16384, .inl f))] 0 0 25 [] := by
  refine zx_aload_n (pc := 25) C d_BS_put_25 rfl 0 rfl ?_
  refine zx_get (pc := 26) (ci := 1) (Cn := R_BS) (T := T_BS) (N := 4) (v := .int (nI b8)) C zu_BS 0 rfl rfl 3 (by decide) zw_103 rfl rfl d_BS_put_26 ?_
  refine zx_bipush (pc := 29) C d_BS_put_29 (v := (8 : Int32)) (by decide) ?_
  refine zx_icmp_lt (pc := 31) C 52 d_BS_put_31 (by decide) (fun c31 => ?_) (fun c31 => ?_)
  · exact zx_vret (pc := 52) C hr9 hlk9 (Nat.zero_le _) (Nat.zero_le _) d_BS_put_52 (r52 c31)
  · refine zx_aload_n (pc := 34) C d_BS_put_34 rfl 0 rfl ?_
    refine zx_callV (pc := 35) (ix := 25) (As := []) (b := a) (q0 := 0) (wr := []) (st := []) C (zx_cw.of (C.w zw_382)) (by decide +kernel) ⟨by decide +kernel, by decide +kernel⟩ zw_381 zs_BS_putByte zw_379 rfl rfl rfl rfl rfl (k_BS_putByte l D cB cI cL hl9 a ab n8 v8 (nI b8) f hn8 hv8) rfl [0, 1] [] rfl rfl (by decide) (by decide) (by decide) (Nat.le_of_ble_eq_true rfl) (Nat.le_of_ble_eq_true rfl) (Nat.le_of_ble_eq_true rfl) (Nat.le_of_ble_eq_true rfl) d_BS_put_35 (fun o w1 hp => ?_)
    rcases hp with ⟨hc35, rfl, rfl⟩ | ⟨hc35, x9, rfl, rfl⟩
    · refine zx_rv (k2 := 0) (n2 := 0) rfl rfl ?_
      refine zx_ws (ws' := [(a, .inr (1, [.ref ab, .int (nI (n8 + 1)), .int (nI (v8 / 256)), .int (nI b8)])), (ab, .inl (cB, 16384, .inl (upd f n8 (zby v8))))]) [0, 1] (by decide) rfl ?_
      refine zx_aload_n (pc := 38) C d_BS_put_38 rfl 0 rfl ?_
      refine zx_dup (pc := 39) C d_BS_put_39 rfl ?_
      refine zx_get (pc := 40) (ci := 1) (Cn := R_BS) (T := T_BS) (N := 4) (v := .int (nI b8)) C zu_BS 0 rfl rfl 3 (by decide) zw_103 rfl rfl d_BS_put_40 ?_
      refine zx_bipush (pc := 43) C d_BS_put_43 (v := (8 : Int32)) (by decide) ?_
      refine zx_isub (pc := 45) C d_BS_put_45 ?_
      refine zx_seti (nI (b8 - 8)) (e45 c31 hc35) ?_
      refine zx_put (pc := 46) (ci := 1) (Cn := R_BS) (T := T_BS) (N := 4) (v := .int (nI (b8 - 8))) (ty := .int) (ws' := [(a, .inr (1, [.ref ab, .int (nI (n8 + 1)), .int (nI (v8 / 256)), .int (nI (b8 - 8))])), (ab, .inl (cB, 16384, .inl (upd f n8 (zby v8))))]) C zu_BS ty_BS tyk_BS nm_BS 0 rfl rfl 3 (by decide) zw_103 rfl rfl (by decide +kernel) rfl rfl (Nat.le_of_ble_eq_true rfl) rfl d_BS_put_46 ?_
      refine zx_goto (pc := 49) C 25 d_BS_put_49 (by decide) ?_
      exact k25 c31 hc35
    · exact zx_rt (k2 := 1) (n2 := 6) rfl rfl (zx_leave hlk9 (zx_noTab ht9 _) (Nat.le_of_ble_eq_true rfl) (Nat.le_of_ble_eq_true rfl) (t35 c31 hc35 x9))

/-- what put gives: the code behind the bits, or too many bytes -/
def zp_put (a ab V P : Nat) (cB : ClassId) : Outcome → va_W → Prop := fun o w =>
  (∃ (f : Nat → Int32) (n v b : Nat), (zS f n v b V P ∧ b < 8 ∧ n ≤ 16384) ∧ o = .returned none ∧ w = [(a, .inr (1, [.ref ab, .int (nI n), .int (nI v), .int (nI b)])), (ab, .inl (cB, 16384, .inl f))]) ∨
  (∃ (f : Nat → Int32) (n v b : Nat), (16384 < P / 8 ∧ ∀ j, vp_nar .byte (f j) = f j) ∧ ∃ x : Nat, o = .threw x ∧ w = [(a, .inr (1, [.ref ab, .int (nI n), .int (nI v), .int (nI b)])), (ab, .inl (cB, 16384, .inl f)), (x, .inr (8, []))])
set_option maxHeartbeats 1000000 in
theorem k_BS_put (l : Launch) (D : va_G) (cB cI cL : ClassId) (hl : l.stackTraces = false) (a ab n v b c k V P : Nat) (f : Nat → Int32) (h : zS f n v b V P) (hb : b < 8) (hn : n ≤ 16384) (hc : c < 2 ^ k) (hk : k ≤ 12) : zx_K l zB D zcl (zt cB cI cL) y_BS_put b_BS_put 3 (none) [] 0 0 (zr 9 1 6) [.ref a, .int (nI c), .int (nI k)] [(a, .inr (1, [.ref ab, .int (nI n), .int (nI v), .int (nI b)])), (ab, .inl (cB, 16384, .inl f))] (zp_put a ab (V + c * 2 ^ P) (P + k) cB) := by
  refine zx_K.mk (Nat.le_of_ble_eq_true rfl) (fun p e s mm below meth c9 C hr hlk ht hnm => ?_)
  have loop : ∀ (q : Nat) (b1 n1 v1 : Nat) (f1 : Nat → Int32), b1 < 8 * q + 8 → b1 < 31 → zS f1 n1 v1 b1 (V + c * 2 ^ P) (P + k) → n1 ≤ 16384 → zx_At p l e (zr 9 1 6) s mm (([.ref a, .int (nI c), .int (nI k)] : List Value)).toArray below meth c9 (zx_Q below s D zcl [(a, .inr (1, [.ref ab, .int (nI n), .int (nI v), .int (nI b)])), (ab, .inl (cB, 16384, .inl f))] 0 0 (zr 9 1 6) (zp_put a ab (V + c * 2 ^ P) (P + k) cB)) D zcl (va_A [(a, .inr (1, [.ref ab, .int (nI n), .int (nI v), .int (nI b)])), (ab, .inl (cB, 16384, .inl f))] s.heap.size) 3 [(0, .ref a), (1, .int (nI c)), (2, .int (nI k))] [(a, .inr (1, [.ref ab, .int (nI n1), .int (nI v1), .int (nI b1)])), (ab, .inl (cB, 16384, .inl f1))] 0 0 25 [] := by
    intro q
    induction q with
    | zero =>
      intro b1 n1 v1 f1 hq hb1 hz hn1
      have hv1 := zS_v hz
      have key : nI b1 < (8 : Int32) := (zp_lt (K := 8) rfl (by omega) (by decide)).mpr (by omega)
      exact sg_BS_put25 C hn1 (Nat.lt_trans hv1 (Nat.pow_lt_pow_right (by decide) (by omega))) hr hlk hl ht (fun _ => Or.inl ⟨f1, n1, v1, b1, ⟨hz, by omega, hn1⟩, rfl, rfl⟩) (fun z => absurd key z) (fun z => absurd key z) (fun z => absurd key z)
    | succ q ih =>
      intro b1 n1 v1 f1 hq hb1 hz hn1
      have hv1 := zS_v hz
      have key : nI b1 < (8 : Int32) ↔ b1 < 8 := zp_lt (K := 8) rfl (by omega) (by decide)
      refine sg_BS_put25 C hn1 (Nat.lt_trans hv1 (Nat.pow_lt_pow_right (by decide) (by omega))) hr hlk hl ht (fun z => Or.inl ⟨f1, n1, v1, b1, ⟨hz, key.mp z, hn1⟩, rfl, rfl⟩) (fun z _ => ?_) (fun z z2 => ?_) (fun z z2 x => ?_)
      · have z3 : ¬ b1 < 8 := fun y => z (key.mpr y)
        exact pk_sub (a := b1) (b := 8) (by omega)
      · have z3 : ¬ b1 < 8 := fun y => z (key.mpr y)
        exact ih (b1 - 8) (n1 + 1) (v1 / 256) (upd f1 n1 (zby v1)) (by omega) (by omega) (zS_step hz (by omega)) (by omega)
      · have z3 : ¬ b1 < 8 := fun y => z (key.mpr y)
        have h1 := hz.1
        exact Or.inr ⟨f1, n1, v1, b1, ⟨by omega, hz.2.2.2.2⟩, x, rfl, rfl⟩
  have hv := zS_v h
  refine sg_BS_put C (zp_or hv (by omega)) (nI_add b k) ?_
  exact loop 3 (b + k) n (v + c * 2 ^ b) f (by omega) (by omega) (zS_put h hc) hn
end
section
/-- a byte's number; the number that n bytes are, the first one lowest -/
def zu (x : Int32) : Nat := x.toBitVec.toNat % 256
theorem zu_lt (x : Int32) : zu x < 256 := Nat.mod_lt _ (by decide)
theorem zu_and (x : Int32) : x &&& 255 = nI (zu x) := pk_and x 8 (by decide)
def zN (f : Nat → Int32) : Nat → Nat
  | 0 => 0
  | n + 1 => zN f n + zu (f n) * 256 ^ n
theorem zN_lt (f : Nat → Int32) : ∀ n, zN f n < 256 ^ n
  | 0 => by simp [zN]
  | n + 1 => by
    have h1 := zN_lt f n
    have h2 := zu_lt (f n)
    have h3 : zu (f n) * 256 ^ n ≤ 255 * 256 ^ n := Nat.mul_le_mul_right _ (by omega)
    rw [zN, Nat.pow_succ]
    omega
theorem zN_dig (f : Nat → Int32) (j : Nat) : ∀ n, zN f n / 256 ^ j % 256 = if j < n then zu (f j) else 0
  | 0 => by simp [zN]
  | n + 1 => by
    have ih := zN_dig f j n
    have h1 := zN_lt f n
    have hp : 0 < 256 ^ j := Nat.pow_pos (by decide)
    rw [zN]
    by_cases q : j < n
    · rw [if_pos (by omega)]
      rw [if_pos q] at ih
      have e1 : zu (f n) * 256 ^ n = 256 ^ j * (256 * (zu (f n) * 256 ^ (n - j - 1))) := by
        have e2 : 256 ^ n = 256 ^ j * (256 * 256 ^ (n - j - 1)) := by
          rw [← Nat.pow_succ', ← Nat.pow_add]
          congr 1
          omega
        rw [e2, Nat.mul_left_comm, Nat.mul_left_comm (zu (f n))]
      rw [e1, Nat.add_mul_div_left _ _ hp, Nat.add_mul_mod_self_left]
      exact ih
    · by_cases q2 : j = n
      · subst q2
        rw [if_pos (by omega), Nat.mul_comm, Nat.add_mul_div_left _ _ hp, Nat.div_eq_of_lt h1, Nat.zero_add]
        exact Nat.mod_eq_of_lt (zu_lt _)
      · rw [if_neg (by omega)]
        have h2 := zN_lt f (n + 1)
        rw [zN] at h2
        have h3 : 256 ^ (n + 1) ≤ 256 ^ j := Nat.pow_le_pow_right (by decide) (by omega)
        rw [Nat.div_eq_of_lt (by omega)]
/-- the code of k bits at a place -/
def zcode (f : Nat → Int32) (n place k : Nat) : Nat := zN f n / 2 ^ place % 2 ^ k
theorem zp_or32 {v c wb : Nat} (hv : v < 2 ^ wb) (hwb : wb < 32) : nI v ||| (nI c <<< (nI wb &&& 31)) = nI (v + c * 2 ^ wb) := by
  have h1 : nI c <<< (nI wb &&& 31) = nI (c * 2 ^ wb) := by
    have h2 : ∀ k, k < 32 → ((nI k &&& 31).toBitVec.smod 32).toNat = k := by decide +kernel
    unfold nI
    apply Int32.toBitVec_inj.mp
    apply BitVec.eq_of_toNat_eq
    have h3 := pk_shl (nI c) (nI wb &&& 31) wb (h2 wb hwb)
    unfold nI at h3
    rw [h3]
    simp [Nat.mul_mod]
  rw [h1]
  unfold nI
  apply Int32.toBitVec_inj.mp
  apply BitVec.eq_of_toNat_eq
  simp only [Int32.toBitVec_or, BitVec.toNat_or, Int32.toBitVec_ofNat', BitVec.toNat_ofNat]
  rw [← Nat.or_mod_two_pow, Nat.mul_comm c, Nat.or_comm, ← Nat.two_pow_add_eq_or_of_lt hv, Nat.add_comm]
theorem zp_shr {v k : Nat} (hv : v < 2 ^ 31) (hk : k < 32) : nI v >>> (nI k &&& 31) = nI (v / 2 ^ k) := by
  have h2 : ∀ k, k < 32 → ((nI k &&& 31).toBitVec.smod 32).toNat = k := by decide +kernel
  exact pk_shrN hv _ k (h2 k hk)
theorem zp_mask {v k : Nat} (hv : v < 2 ^ 32) (hk : k < 32) : nI v &&& nI (2 ^ k - 1) = nI (v % 2 ^ k) := by
  refine pk_andN hv k ?_
  exact pk_tn (Nat.lt_of_le_of_lt (Nat.sub_le _ _) (Nat.pow_lt_pow_right (by decide) hk))
theorem zX_step (X k : Nat) : X % 256 ^ (k + 1) = X % 256 ^ k + (X / 256 ^ k % 256) * 2 ^ (8 * k) := by
  rw [show 2 ^ (8 * k) = 256 ^ k by rw [Nat.pow_mul], Nat.pow_succ, Nat.mod_mul, Nat.mul_comm (256 ^ k)]
theorem zX_code {N place k : Nat} (hk : k ≤ 12) : (N / 256 ^ (place / 8) % 256 ^ 3) / 2 ^ (place % 8) % 2 ^ k = N / 2 ^ place % 2 ^ k := by
  have e1 : (256 : Nat) ^ (place / 8) = 2 ^ (8 * (place / 8)) := by rw [Nat.pow_mul]
  have e2 : (256 : Nat) ^ 3 = 2 ^ (place % 8) * 2 ^ (24 - place % 8) := by
    rw [← Nat.pow_add, show place % 8 + (24 - place % 8) = 24 by omega]
  have e3 : (2 : Nat) ^ (24 - place % 8) = 2 ^ k * 2 ^ (24 - place % 8 - k) := by
    rw [← Nat.pow_add]; congr 1; omega
  rw [e2, Nat.mod_mul_right_div_self, e3, Nat.mod_mul_right_mod, e1, Nat.div_div_eq_div_mul, ← Nat.pow_add, show 8 * (place / 8) + place % 8 = place by omega]
set_option maxRecDepth 100000 in
set_option maxHeartbeats 4000000 in
theorem sg_UN_codeAt {p : Program} {l : Launch} {e : Env} {R : Room} {s : State} {m : MethodId} {args : Array Value} {below : List Frame} {meth : Method} {c : Code} {D : va_G} {cB cI cL : ClassId} {Q : State → Prop} {A : Nat → Prop} (C : zx_C p s m args c b_UN_codeAt 7 R_UN zB D zcl (zt cB cI cL) A) {t n pl k : Nat} {f : Nat → Int32} (e5 : ((nI pl) >>> ((3 : Int32) &&& 31)) = (nI (pl / 8))) (k11 : zx_At p l e R s m args below meth c Q D zcl A 7 [(0, .ref t), (1, .int (nI n)), (2, .int (nI pl)), (3, .int (nI k)), (4, .int (0 : Int32)), (5, .int (nI (pl / 8))), (6, .int (0 : Int32))] [(t, .inl (cB, 16384, .inl f))] 0 0 11 []) : zx_At p l e R s m args below meth c Q D zcl A 7 [(0, .ref t), (1, .int (nI n)), (2, .int (nI pl)), (3, .int (nI k))] [(t, .inl (cB, 16384, .inl f))] 0 0 0 [] := by
  refine zx_iconst (pc := 0) C d_UN_codeAt_0 (v := (0 : Int32)) (by decide) ?_
  refine zx_istore (pc := 1) C d_UN_codeAt_1 (by decide) (lv' := [(4, .int (0 : Int32)), (0, .ref t), (1, .int (nI n)), (2, .int (nI pl)), (3, .int (nI k))]) rfl ?_
  refine zx_iload_n (pc := 3) C d_UN_codeAt_3 rfl 3 rfl ?_
  refine zx_iconst (pc := 4) C d_UN_codeAt_4 (v := (3 : Int32)) (by decide) ?_
  refine zx_ishr (pc := 5) C d_UN_codeAt_5 ?_
  refine zx_seti (nI (pl / 8)) (e5) ?_
  refine zx_istore (pc := 6) C d_UN_codeAt_6 (by decide) (lv' := [(5, .int (nI (pl / 8))), (4, .int (0 : Int32)), (0, .ref t), (1, .int (nI n)), (2, .int (nI pl)), (3, .int (nI k))]) rfl ?_
  refine zx_iconst (pc := 8) C d_UN_codeAt_8 (v := (0 : Int32)) (by decide) ?_
  refine zx_istore (pc := 9) C d_UN_codeAt_9 (by decide) (lv' := [(6, .int (0 : Int32)), (5, .int (nI (pl / 8))), (4, .int (0 : Int32)), (0, .ref t), (1, .int (nI n)), (2, .int (nI pl)), (3, .int (nI k))]) rfl ?_
  refine zx_lv (lv' := [(0, .ref t), (1, .int (nI n)), (2, .int (nI pl)), (3, .int (nI k)), (4, .int (0 : Int32)), (5, .int (nI (pl / 8))), (6, .int (0 : Int32))]) [3, 4, 5, 6, 2, 1, 0] rfl ?_
  exact k11

set_option maxRecDepth 100000 in
set_option maxHeartbeats 4000000 in
theorem sg_UN_codeAt54 {p : Program} {l : Launch} {e : Env} {R : Room} {s : State} {m : MethodId} {args : Array Value} {below : List Frame} {meth : Method} {c : Code} {D : va_G} {cB cI cL : ClassId} {w0 : va_W} {kr nr : Nat} {post : Outcome → va_W → Prop} (C : zx_C p s m args c b_UN_codeAt 7 R_UN zB D zcl (zt cB cI cL) (va_A w0 s.heap.size)) {t n pl k w : Nat} {f : Nat → Int32} (hr9 : meth.sig.returnType = some .int) (hlk9 : meth.locks = false) (e59 : ((nI pl) &&& (7 : Int32)) = (nI (pl % 8))) (e60 : ((nI w) >>> ((nI (pl % 8)) &&& 31)) = (nI (w / 2 ^ (pl % 8)))) (e63 : ((1 : Int32) <<< ((nI k) &&& 31)) = (nI (2 ^ k))) (e65 : ((nI (2 ^ k)) - (1 : Int32)) = (nI (2 ^ k - 1))) (e66 : ((nI (w / 2 ^ (pl % 8))) &&& (nI (2 ^ k - 1))) = (nI (w / 2 ^ (pl % 8) % 2 ^ k))) (r67 : post (.returned (some (.int (nI (w / 2 ^ (pl % 8) % 2 ^ k))))) [(t, .inl (cB, 16384, .inl f))]) : zx_At p l e R s m args below meth c (zx_Q below s D zcl w0 kr nr R post) D zcl (va_A w0 s.heap.size) 7 [(0, .ref t), (1, .int (nI n)), (2, .int (nI pl)), (3, .int (nI k)), (4, .int (nI w))] [(t, .inl (cB, 16384, .inl f))] 0 0 54 [] := by
  refine zx_iload (pc := 54) C d_UN_codeAt_54 4 rfl ?_
  refine zx_iload_n (pc := 56) C d_UN_codeAt_56 rfl 2 rfl ?_
  refine zx_bipush (pc := 57) C d_UN_codeAt_57 (v := (7 : Int32)) (by decide) ?_
  refine zx_iand (pc := 59) C d_UN_codeAt_59 ?_
  refine zx_seti (nI (pl % 8)) (e59) ?_
  refine zx_ishr (pc := 60) C d_UN_codeAt_60 ?_
  refine zx_seti (nI (w / 2 ^ (pl % 8))) (e60) ?_
  refine zx_iconst (pc := 61) C d_UN_codeAt_61 (v := (1 : Int32)) (by decide) ?_
  refine zx_iload_n (pc := 62) C d_UN_codeAt_62 rfl 3 rfl ?_
  refine zx_ishl (pc := 63) C d_UN_codeAt_63 ?_
  refine zx_seti (nI (2 ^ k)) (e63) ?_
  refine zx_iconst (pc := 64) C d_UN_codeAt_64 (v := (1 : Int32)) (by decide) ?_
  refine zx_isub (pc := 65) C d_UN_codeAt_65 ?_
  refine zx_seti (nI (2 ^ k - 1)) (e65) ?_
  refine zx_iand (pc := 66) C d_UN_codeAt_66 ?_
  refine zx_seti (nI (w / 2 ^ (pl % 8) % 2 ^ k)) (e66) ?_
  exact zx_iret (pc := 67) C hr9 hlk9 (Nat.zero_le _) (Nat.zero_le _) d_UN_codeAt_67 (r67)

set_option maxRecDepth 100000 in
set_option maxHeartbeats 4000000 in
theorem sg_UN_codeAt11 {p : Program} {l : Launch} {e : Env} {R : Room} {s : State} {m : MethodId} {args : Array Value} {below : List Frame} {meth : Method} {c : Code} {D : va_G} {cB cI cL : ClassId} {Q : State → Prop} {A : Nat → Prop} (C : zx_C p s m args c b_UN_codeAt 7 R_UN zB D zcl (zt cB cI cL) A) {t n pl k i q w : Nat} {f : Nat → Int32} (k54 : ((3 : Int32) ≤ (nI i)) → zx_At p l e R s m args below meth c Q D zcl A 7 [(0, .ref t), (1, .int (nI n)), (2, .int (nI pl)), (3, .int (nI k)), (4, .int (nI w))] [(t, .inl (cB, 16384, .inl f))] 0 0 54 []) (e21 : (¬ (3 : Int32) ≤ (nI i)) → ((nI q) + (nI i)) = (nI (q + i))) (k54_2 : (¬ (3 : Int32) ≤ (nI i)) → ((nI n) ≤ (nI (q + i))) → zx_At p l e R s m args below meth c Q D zcl A 7 [(0, .ref t), (1, .int (nI n)), (2, .int (nI pl)), (3, .int (nI k)), (4, .int (nI w))] [(t, .inl (cB, 16384, .inl f))] 0 0 54 []) (e33 : (¬ (3 : Int32) ≤ (nI i)) → (¬ (nI n) ≤ (nI (q + i))) → ((nI q) + (nI i)) = (nI (q + i))) (b34 : (¬ (3 : Int32) ≤ (nI i)) → (¬ (nI n) ≤ (nI (q + i))) → (nI (q + i)) = nI (q + i) ∧ (q + i) < 16384) (e38 : (¬ (3 : Int32) ≤ (nI i)) → (¬ (nI n) ≤ (nI (q + i))) → ((f (q + i)) &&& (255 : Int32)) = (nI (zu (f (q + i))))) (e43 : (¬ (3 : Int32) ≤ (nI i)) → (¬ (nI n) ≤ (nI (q + i))) → ((8 : Int32) * (nI i)) = (nI (8 * i))) (e45 : (¬ (3 : Int32) ≤ (nI i)) → (¬ (nI n) ≤ (nI (q + i))) → ((nI w) ||| ((nI (zu (f (q + i)))) <<< ((nI (8 * i)) &&& 31))) = (nI (w + zu (f (q + i)) * 2 ^ (8 * i)))) (e48 : (¬ (3 : Int32) ≤ (nI i)) → (¬ (nI n) ≤ (nI (q + i))) → (nI i) + (1 : Int32) = (nI (i + 1))) (k11 : (¬ (3 : Int32) ≤ (nI i)) → (¬ (nI n) ≤ (nI (q + i))) → zx_At p l e R s m args below meth c Q D zcl A 7 [(0, .ref t), (1, .int (nI n)), (2, .int (nI pl)), (3, .int (nI k)), (4, .int (nI (w + zu (f (q + i)) * 2 ^ (8 * i)))), (5, .int (nI q)), (6, .int (nI (i + 1)))] [(t, .inl (cB, 16384, .inl f))] 0 0 11 []) : zx_At p l e R s m args below meth c Q D zcl A 7 [(0, .ref t), (1, .int (nI n)), (2, .int (nI pl)), (3, .int (nI k)), (4, .int (nI w)), (5, .int (nI q)), (6, .int (nI i))] [(t, .inl (cB, 16384, .inl f))] 0 0 11 [] := by
  refine zx_iload (pc := 11) C d_UN_codeAt_11 6 rfl ?_
  refine zx_iconst (pc := 13) C d_UN_codeAt_13 (v := (3 : Int32)) (by decide) ?_
  refine zx_icmp_ge (pc := 14) C 54 d_UN_codeAt_14 (by decide) (fun c14 => ?_) (fun c14 => ?_)
  · refine zx_lv (lv' := [(0, .ref t), (1, .int (nI n)), (2, .int (nI pl)), (3, .int (nI k)), (4, .int (nI w))]) [0, 1, 2, 3, 4] rfl ?_
    exact k54 c14
  · refine zx_iload (pc := 17) C d_UN_codeAt_17 5 rfl ?_
    refine zx_iload (pc := 19) C d_UN_codeAt_19 6 rfl ?_
    refine zx_iadd (pc := 21) C d_UN_codeAt_21 ?_
    refine zx_seti (nI (q + i)) (e21 c14) ?_
    refine zx_iload_n (pc := 22) C d_UN_codeAt_22 rfl 1 rfl ?_
    refine zx_icmp_ge (pc := 23) C 54 d_UN_codeAt_23 (by decide) (fun c23 => ?_) (fun c23 => ?_)
    · refine zx_lv (lv' := [(0, .ref t), (1, .int (nI n)), (2, .int (nI pl)), (3, .int (nI k)), (4, .int (nI w))]) [0, 1, 2, 3, 4] rfl ?_
      exact k54_2 c14 c23
    · refine zx_iload (pc := 26) C d_UN_codeAt_26 4 rfl ?_
      refine zx_aload_n (pc := 28) C d_UN_codeAt_28 rfl 0 rfl ?_
      refine zx_iload (pc := 29) C d_UN_codeAt_29 5 rfl ?_
      refine zx_iload (pc := 31) C d_UN_codeAt_31 6 rfl ?_
      refine zx_iadd (pc := 33) C d_UN_codeAt_33 ?_
      refine zx_seti (nI (q + i)) (e33 c14 c23) ?_
      refine zx_bald (pc := 34) C 0 0 rfl rfl (q + i) (b34 c14 c23).1 (b34 c14 c23).2 (by decide) d_UN_codeAt_34 ?_
      refine zx_sipush (pc := 35) C d_UN_codeAt_35 (v := (255 : Int32)) (by decide) ?_
      refine zx_iand (pc := 38) C d_UN_codeAt_38 ?_
      refine zx_seti (nI (zu (f (q + i)))) (e38 c14 c23) ?_
      refine zx_bipush (pc := 39) C d_UN_codeAt_39 (v := (8 : Int32)) (by decide) ?_
      refine zx_iload (pc := 41) C d_UN_codeAt_41 6 rfl ?_
      refine zx_imul (pc := 43) C d_UN_codeAt_43 ?_
      refine zx_seti (nI (8 * i)) (e43 c14 c23) ?_
      refine zx_ishl (pc := 44) C d_UN_codeAt_44 ?_
      refine zx_ior (pc := 45) C d_UN_codeAt_45 ?_
      refine zx_seti (nI (w + zu (f (q + i)) * 2 ^ (8 * i))) (e45 c14 c23) ?_
      refine zx_istore (pc := 46) C d_UN_codeAt_46 (by decide) (lv' := [(4, .int (nI (w + zu (f (q + i)) * 2 ^ (8 * i)))), (0, .ref t), (1, .int (nI n)), (2, .int (nI pl)), (3, .int (nI k)), (5, .int (nI q)), (6, .int (nI i))]) rfl ?_
      refine zx_iinc (pc := 48) C d_UN_codeAt_48 6 rfl (v := (nI (i + 1))) (e48 c14 c23) (by decide) (lv' := [(6, .int (nI (i + 1))), (4, .int (nI (w + zu (f (q + i)) * 2 ^ (8 * i)))), (0, .ref t), (1, .int (nI n)), (2, .int (nI pl)), (3, .int (nI k)), (5, .int (nI q))]) rfl ?_
      refine zx_goto (pc := 51) C 11 d_UN_codeAt_51 (by decide) ?_
      refine zx_lv (lv' := [(0, .ref t), (1, .int (nI n)), (2, .int (nI pl)), (3, .int (nI k)), (4, .int (nI (w + zu (f (q + i)) * 2 ^ (8 * i)))), (5, .int (nI q)), (6, .int (nI (i + 1)))]) [2, 3, 4, 5, 1, 6, 0] rfl ?_
      exact k11 c14 c23

set_option maxHeartbeats 1000000 in
/-- codeAt: the code of k bits at the place -/
theorem k_UN_codeAt (l : Launch) (D : va_G) (cB cI cL : ClassId) (R : Room) (t n pl k : Nat) (f : Nat → Int32) (hn : n ≤ 16384) (hk : k ≤ 12) (hp : pl + k ≤ 8 * n) : zx_K l zB D zcl (zt cB cI cL) y_UN_codeAt b_UN_codeAt 7 (some .int) [] 0 0 R [.ref t, .int (nI n), .int (nI pl), .int (nI k)] [(t, .inl (cB, 16384, .inl f))] (fun o w => o = .returned (some (.int (nI (zcode f n pl k)))) ∧ w = [(t, .inl (cB, 16384, .inl f))]) := by
  refine zx_K.mk (Nat.le_of_ble_eq_true rfl) (fun p e s mm below meth c9 C hr hlk ht hnm => ?_)
  have e3 : ∀ w : Nat, w = zN f n / 256 ^ (pl / 8) % 256 ^ 3 → zx_At p l e R s mm (([.ref t, .int (nI n), .int (nI pl), .int (nI k)] : List Value)).toArray below meth c9 (zx_Q below s D zcl [(t, .inl (cB, 16384, .inl f))] 0 0 R (fun o w => o = .returned (some (.int (nI (zcode f n pl k)))) ∧ w = [(t, .inl (cB, 16384, .inl f))])) D zcl (va_A [(t, .inl (cB, 16384, .inl f))] s.heap.size) 7 [(0, .ref t), (1, .int (nI n)), (2, .int (nI pl)), (3, .int (nI k)), (4, .int (nI w))] [(t, .inl (cB, 16384, .inl f))] 0 0 54 [] := by
    intro w hw
    have hwlt : w < 2 ^ 24 := by rw [hw]; exact Nat.mod_lt _ (by decide)
    have hdl : w / 2 ^ (pl % 8) ≤ w := Nat.div_le_self _ _
    have h16 : k < 16 := by omega
    refine sg_UN_codeAt54 C hr hlk (pk_andN (by omega) 3 (by decide)) (zp_shr (by omega) (by omega)) (zp_shl1 k h16) (pk_sub (a := 2 ^ k) (b := 1) Nat.one_le_two_pow) (zp_mask (by omega) (by omega)) ⟨?_, rfl⟩
    rw [hw, zX_code hk, zcode]
  have loop : ∀ (d i w : Nat), i + d = 3 → w = zN f n / 256 ^ (pl / 8) % 256 ^ i → zx_At p l e R s mm (([.ref t, .int (nI n), .int (nI pl), .int (nI k)] : List Value)).toArray below meth c9 (zx_Q below s D zcl [(t, .inl (cB, 16384, .inl f))] 0 0 R (fun o w => o = .returned (some (.int (nI (zcode f n pl k)))) ∧ w = [(t, .inl (cB, 16384, .inl f))])) D zcl (va_A [(t, .inl (cB, 16384, .inl f))] s.heap.size) 7 [(0, .ref t), (1, .int (nI n)), (2, .int (nI pl)), (3, .int (nI k)), (4, .int (nI w)), (5, .int (nI (pl / 8))), (6, .int (nI i))] [(t, .inl (cB, 16384, .inl f))] 0 0 11 [] := by
    intro d
    induction d with
    | zero =>
      intro i w hi hw
      have hi3 : i = 3 := by omega
      subst hi3
      have key : (3 : Int32) ≤ nI 3 := by decide
      exact sg_UN_codeAt11 C (fun _ => e3 w hw) (fun z => absurd key z) (fun z => absurd key z) (fun z => absurd key z) (fun z => absurd key z) (fun z => absurd key z) (fun z => absurd key z) (fun z => absurd key z) (fun z => absurd key z) (fun z => absurd key z)
    | succ d ih =>
      intro i w hi hw
      have nk : ¬ (3 : Int32) ≤ nI i := fun z => absurd ((zp_ge (k := 3) (K := 3) rfl (by omega) (by decide)).mp z) (by omega)
      have key : nI n ≤ nI (pl / 8 + i) ↔ n ≤ pl / 8 + i := nI_leI (by omega) (by omega)
      have hwi : w < 2 ^ (8 * i) := by
        rw [hw, Nat.pow_mul]
        exact Nat.mod_lt _ (Nat.pow_pos (by decide))
      refine sg_UN_codeAt11 C (fun z => absurd z nk) (fun _ => nI_add _ _) (fun _ z => ?_) (fun _ _ => nI_add _ _) (fun _ z => ⟨rfl, ?_⟩) (fun _ _ => zu_and _) (fun _ _ => pk_mul 8 i) (fun _ _ => zp_or32 hwi (by omega)) (fun _ _ => nI_1 i) (fun _ z => ?_)
      · refine e3 w ?_
        have z2 := key.mp z
        have h1 : zN f n / 256 ^ (pl / 8) < 256 ^ i := by
          refine Nat.div_lt_of_lt_mul ?_
          rw [← Nat.pow_add]
          exact Nat.lt_of_lt_of_le (zN_lt f n) (Nat.pow_le_pow_right (by decide) z2)
        have h2 : 256 ^ i ≤ 256 ^ 3 := Nat.pow_le_pow_right (by decide) (by omega)
        rw [hw, Nat.mod_eq_of_lt h1, Nat.mod_eq_of_lt (Nat.lt_of_lt_of_le h1 h2)]
      · have z2 : ¬ n ≤ pl / 8 + i := fun y => z (key.mpr y)
        omega
      · have z2 : ¬ n ≤ pl / 8 + i := fun y => z (key.mpr y)
        refine ih (i + 1) _ (by omega) ?_
        have h1 := zN_dig f (pl / 8 + i) n
        rw [if_pos (by omega), Nat.pow_add, ← Nat.div_div_eq_div_mul] at h1
        rw [zX_step, h1, hw]
  exact sg_UN_codeAt C (pk_shrN (n := pl) (by omega) 3 3 (by decide)) (loop 3 0 0 rfl (by simp [Nat.mod_one]))
set_option maxRecDepth 100000 in
set_option maxHeartbeats 4000000 in
theorem sg_UN_repeat {p : Program} {l : Launch} {e : Env} {R : Room} {s : State} {m : MethodId} {args : Array Value} {below : List Frame} {meth : Method} {c : Code} {D : va_G} {cB cI cL : ClassId} {Q : State → Prop} {A : Nat → Prop} (C : zx_C p s m args c b_UN_repeat 4 R_UN zB D zcl (zt cB cI cL) A) {a na sa la ia made : Nat} {st9 len9 ls9 ll9 : Int32} {f : Nat → Int32} (k2 : zx_At p l e R s m args below meth c Q D zcl A 4 [(0, .ref a), (1, .int st9), (2, .int len9), (3, .int (0 : Int32))] [(a, .inr (2, [.ref na, .ref sa, .ref la, .ref ia, .int (nI made), .int ls9, .int ll9])), (ia, .inl (cB, 16384, .inl f))] 0 0 2 []) : zx_At p l e R s m args below meth c Q D zcl A 4 [(0, .ref a), (1, .int st9), (2, .int len9)] [(a, .inr (2, [.ref na, .ref sa, .ref la, .ref ia, .int (nI made), .int ls9, .int ll9])), (ia, .inl (cB, 16384, .inl f))] 0 0 0 [] := by
  refine zx_iconst (pc := 0) C d_UN_repeat_0 (v := (0 : Int32)) (by decide) ?_
  refine zx_istore_n (pc := 1) C d_UN_repeat_1 rfl (by decide) (lv' := [(3, .int (0 : Int32)), (0, .ref a), (1, .int st9), (2, .int len9)]) rfl ?_
  refine zx_lv (lv' := [(0, .ref a), (1, .int st9), (2, .int len9), (3, .int (0 : Int32))]) [1, 2, 3, 0] rfl ?_
  exact k2

set_option maxRecDepth 100000 in
set_option maxHeartbeats 4000000 in
theorem sg_UN_repeat2 {p : Program} {l : Launch} {e : Env} {R : Room} {s : State} {m : MethodId} {args : Array Value} {below : List Frame} {meth : Method} {c : Code} {D : va_G} {cB cI cL : ClassId} {w0 : va_W} {kr nr : Nat} {post : Outcome → va_W → Prop} (C : zx_C p s m args c b_UN_repeat 4 R_UN zB D zcl (zt cB cI cL) (va_A w0 s.heap.size)) {a na sa la ia made st len i : Nat} {ls9 ll9 : Int32} {f : Nat → Int32} (hr9 : meth.sig.returnType = none) (hlk9 : meth.locks = false) (r32 : ((nI len) ≤ (nI i)) → post (.returned none) [(a, .inr (2, [.ref na, .ref sa, .ref la, .ref ia, .int (nI made), .int ls9, .int ll9])), (ia, .inl (cB, 16384, .inl f))]) (e16 : (¬ (nI len) ≤ (nI i)) → ((nI made) + (nI i)) = (nI (made + i))) (e23 : (¬ (nI len) ≤ (nI i)) → ((nI st) + (nI i)) = (nI (st + i))) (b24 : (¬ (nI len) ≤ (nI i)) → (nI (st + i)) = nI (st + i) ∧ (st + i) < 16384) (b25 : (¬ (nI len) ≤ (nI i)) → (nI (made + i)) = nI (made + i) ∧ (made + i) < 16384) (e26 : (¬ (nI len) ≤ (nI i)) → (nI i) + (1 : Int32) = (nI (i + 1))) (k2 : (¬ (nI len) ≤ (nI i)) → zx_At p l e R s m args below meth c (zx_Q below s D zcl w0 kr nr R post) D zcl (va_A w0 s.heap.size) 4 [(0, .ref a), (1, .int (nI st)), (2, .int (nI len)), (3, .int (nI (i + 1)))] [(a, .inr (2, [.ref na, .ref sa, .ref la, .ref ia, .int (nI made), .int ls9, .int ll9])), (ia, .inl (cB, 16384, .inl (upd f (made + i) (vp_nar .byte (f (st + i))))))] 0 0 2 []) : zx_At p l e R s m args below meth c (zx_Q below s D zcl w0 kr nr R post) D zcl (va_A w0 s.heap.size) 4 [(0, .ref a), (1, .int (nI st)), (2, .int (nI len)), (3, .int (nI i))] [(a, .inr (2, [.ref na, .ref sa, .ref la, .ref ia, .int (nI made), .int ls9, .int ll9])), (ia, .inl (cB, 16384, .inl f))] 0 0 2 [] := by
  refine zx_iload_n (pc := 2) C d_UN_repeat_2 rfl 3 rfl ?_
  refine zx_iload_n (pc := 3) C d_UN_repeat_3 rfl 2 rfl ?_
  refine zx_icmp_ge (pc := 4) C 32 d_UN_repeat_4 (by decide) (fun c4 => ?_) (fun c4 => ?_)
  · exact zx_vret (pc := 32) C hr9 hlk9 (Nat.zero_le _) (Nat.zero_le _) d_UN_repeat_32 (r32 c4)
  · refine zx_aload_n (pc := 7) C d_UN_repeat_7 rfl 0 rfl ?_
    refine zx_get (pc := 8) (ci := 2) (Cn := R_UN) (T := T_UN) (N := 7) (v := .ref ia) C zu_UN 0 rfl rfl 3 (by decide) zw_66 rfl rfl d_UN_repeat_8 ?_
    refine zx_aload_n (pc := 11) C d_UN_repeat_11 rfl 0 rfl ?_
    refine zx_get (pc := 12) (ci := 2) (Cn := R_UN) (T := T_UN) (N := 7) (v := .int (nI made)) C zu_UN 0 rfl rfl 4 (by decide) zw_67 rfl rfl d_UN_repeat_12 ?_
    refine zx_iload_n (pc := 15) C d_UN_repeat_15 rfl 3 rfl ?_
    refine zx_iadd (pc := 16) C d_UN_repeat_16 ?_
    refine zx_seti (nI (made + i)) (e16 c4) ?_
    refine zx_aload_n (pc := 17) C d_UN_repeat_17 rfl 0 rfl ?_
    refine zx_get (pc := 18) (ci := 2) (Cn := R_UN) (T := T_UN) (N := 7) (v := .ref ia) C zu_UN 0 rfl rfl 3 (by decide) zw_66 rfl rfl d_UN_repeat_18 ?_
    refine zx_iload_n (pc := 21) C d_UN_repeat_21 rfl 1 rfl ?_
    refine zx_iload_n (pc := 22) C d_UN_repeat_22 rfl 3 rfl ?_
    refine zx_iadd (pc := 23) C d_UN_repeat_23 ?_
    refine zx_seti (nI (st + i)) (e23 c4) ?_
    refine zx_bald (pc := 24) C 1 0 rfl rfl (st + i) (b24 c4).1 (b24 c4).2 (by decide) d_UN_repeat_24 ?_
    refine zx_bast (pc := 25) (ws' := [(a, .inr (2, [.ref na, .ref sa, .ref la, .ref ia, .int (nI made), .int ls9, .int ll9])), (ia, .inl (cB, 16384, .inl (upd f (made + i) (vp_nar .byte (f (st + i))))))]) C 1 0 rfl rfl (made + i) (b25 c4).1 (b25 c4).2 (by decide) rfl d_UN_repeat_25 ?_
    refine zx_iinc (pc := 26) C d_UN_repeat_26 3 rfl (v := (nI (i + 1))) (e26 c4) (by decide) (lv' := [(3, .int (nI (i + 1))), (0, .ref a), (1, .int (nI st)), (2, .int (nI len))]) rfl ?_
    refine zx_goto (pc := 29) C 2 d_UN_repeat_29 (by decide) ?_
    refine zx_lv (lv' := [(0, .ref a), (1, .int (nI st)), (2, .int (nI len)), (3, .int (nI (i + 1)))]) [1, 2, 3, 0] rfl ?_
    exact k2 c4

/-- n indices of f from st on, laid from made on, one by one from the front -/
def zcp (f : Nat → Int32) (made st : Nat) : Nat → Nat → Int32
  | 0 => f
  | i + 1 => upd (zcp f made st i) (made + i) (zcp f made st i (st + i))
theorem zcp_by {f : Nat → Int32} {made st : Nat} (h : ∀ j, vp_nar .byte (f j) = f j) : ∀ i j, vp_nar .byte (zcp f made st i j) = zcp f made st i j
  | 0, j => h j
  | i + 1, j => by
    show vp_nar .byte (upd _ _ _ j) = upd _ _ _ j
    by_cases q : j = made + i
    · rw [q, pk_us]; exact zcp_by h i _
    · rw [pk_un q]; exact zcp_by h i _
theorem k_UN_repeat (l : Launch) (D : va_G) (cB cI cL : ClassId) (R : Room) (a na sa la ia made st len : Nat) (ls9 ll9 : Int32) (f : Nat → Int32) (hb : ∀ j, vp_nar .byte (f j) = f j) (h1 : made + len ≤ 16384) (h2 : st ≤ made) : zx_K l zB D zcl (zt cB cI cL) y_UN_repeat b_UN_repeat 4 (none) [] 0 0 R [.ref a, .int (nI st), .int (nI len)] [(a, .inr (2, [.ref na, .ref sa, .ref la, .ref ia, .int (nI made), .int ls9, .int ll9])), (ia, .inl (cB, 16384, .inl f))] (fun o w => o = .returned none ∧ w = [(a, .inr (2, [.ref na, .ref sa, .ref la, .ref ia, .int (nI made), .int ls9, .int ll9])), (ia, .inl (cB, 16384, .inl (zcp f made st len)))]) := by
  refine zx_K.mk (Nat.le_of_ble_eq_true rfl) (fun p e s mm below meth c9 C hr hlk ht hnm => ?_)
  have loop : ∀ (d i : Nat), i + d = len → zx_At p l e R s mm (([.ref a, .int (nI st), .int (nI len)] : List Value)).toArray below meth c9 (zx_Q below s D zcl [(a, .inr (2, [.ref na, .ref sa, .ref la, .ref ia, .int (nI made), .int ls9, .int ll9])), (ia, .inl (cB, 16384, .inl f))] 0 0 R (fun o w => o = .returned none ∧ w = [(a, .inr (2, [.ref na, .ref sa, .ref la, .ref ia, .int (nI made), .int ls9, .int ll9])), (ia, .inl (cB, 16384, .inl (zcp f made st len)))])) D zcl (va_A [(a, .inr (2, [.ref na, .ref sa, .ref la, .ref ia, .int (nI made), .int ls9, .int ll9])), (ia, .inl (cB, 16384, .inl f))] s.heap.size) 4 [(0, .ref a), (1, .int (nI st)), (2, .int (nI len)), (3, .int (nI i))] [(a, .inr (2, [.ref na, .ref sa, .ref la, .ref ia, .int (nI made), .int ls9, .int ll9])), (ia, .inl (cB, 16384, .inl (zcp f made st i)))] 0 0 2 [] := by
    intro d
    induction d with
    | zero =>
      intro i hi
      have key : nI len ≤ nI i := by rw [show i = len by omega]; exact Int32.le_refl _
      exact sg_UN_repeat2 C hr hlk (fun _ => ⟨rfl, by rw [show i = len by omega]⟩) (fun z => absurd key z) (fun z => absurd key z) (fun z => absurd key z) (fun z => absurd key z) (fun z => absurd key z) (fun z => absurd key z)
    | succ d ih =>
      intro i hi
      have nk : ¬ nI len ≤ nI i := fun z => absurd ((nI_leI (by omega) (by omega)).mp z) (by omega)
      refine sg_UN_repeat2 C hr hlk (fun z => absurd z nk) (fun _ => nI_add _ _) (fun _ => nI_add _ _) (fun _ => ⟨rfl, by omega⟩) (fun _ => ⟨rfl, by omega⟩) (fun _ => nI_1 i) (fun _ => ?_)
      rw [zcp_by hb i]
      exact ih (i + 1) (by omega)
  exact sg_UN_repeat C (loop len 0 (by omega))
end
section
def zf (g : Nat → Nat) : Nat → Int32 := fun j => nI (g j)
def updN (g : Nat → Nat) (k v : Nat) : Nat → Nat := fun j => if j = k then v else g j
theorem zf_upd (g : Nat → Nat) (k v : Nat) : upd (zf g) k (nI v) = zf (updN g k v) := by
  funext j
  by_cases q : j = k
  · rw [q, pk_us]; simp [zf, updN]
  · rw [pk_un q]; simp [zf, updN, q]
theorem zb_d {P : Prop} [Decidable P] : zb (decide P) = 0 ↔ ¬ P := by by_cases h : P <;> simp [zb, h]
/-- the rows behind a code: where they begin, how long they are -/
def zd_rs (rs : Nat → Nat) (x ls : Nat) (fr : Bool) : Nat → Nat := if fr = false ∧ x < 4096 then updN rs x ls else rs
def zd_rl (rl : Nat → Nat) (x ll : Nat) (fr : Bool) : Nat → Nat := if fr = false ∧ x < 4096 then updN rl x (ll + 1) else rl
def zd_len (m c : Nat) (rl : Nat → Nat) : Nat := if c < 2 ^ m then 1 else rl c
def zd_out (m c : Nat) (f : Nat → Int32) (made : Nat) (rs rl : Nat → Nat) : Nat → Int32 := if c < 2 ^ m then upd f made (zby c) else zcp f made (rs c) (rl c)
set_option maxRecDepth 100000 in
set_option maxHeartbeats 4000000 in
theorem sg_UN_take0 {p : Program} {l : Launch} {e : Env} {s : State} {mi : MethodId} {args : Array Value} {below : List Frame} {meth : Method} {co : Code} {D : va_G} {cB cI cL : ClassId} {Q : State → Prop} {A : Nat → Prop} (C : zx_C p s mi args co b_UN_takeCode 5 R_UN zB D zcl (zt cB cI cL) A) {a na sa la ia m b x ls ll made c8 : Nat} {fr : Bool} {rs rl : Nat → Nat} {f : Nat → Int32} (hx : x < 2 ^ 31) (k43 : ((zb (!fr && decide (x < 4096))) = 0) → zx_At p l e (zr 8 1 6) s mi args below meth co Q D zcl A 5 [(0, .ref a), (1, .int (nI c8)), (2, .int (nI x))] [(a, .inr (2, [.ref na, .ref sa, .ref la, .ref ia, .int (nI made), .int (nI ls), .int (nI ll)])), (na, .inr (0, [.int (nI m), .int (nI b), .int (nI x), .int (zb fr)])), (sa, .inl (cI, 4096, .inl (zf rs))), (la, .inl (cI, 4096, .inl (zf rl))), (ia, .inl (cB, 16384, .inl f))] 0 0 43 []) (b27 : (¬ (zb (!fr && decide (x < 4096))) = 0) → (nI x) = nI x ∧ x < 4096) (e38 : (¬ (zb (!fr && decide (x < 4096))) = 0) → ((nI ll) + (1 : Int32)) = (nI (ll + 1))) (b39 : (¬ (zb (!fr && decide (x < 4096))) = 0) → (nI x) = nI x ∧ x < 4096) (e40 : (¬ (zb (!fr && decide (x < 4096))) = 0) → (nI x) + (1 : Int32) = (nI (x + 1))) (k43_2 : (¬ (zb (!fr && decide (x < 4096))) = 0) → zx_At p l e (zr 8 1 6) s mi args below meth co Q D zcl A 5 [(0, .ref a), (1, .int (nI c8)), (2, .int (nI (x + 1)))] [(a, .inr (2, [.ref na, .ref sa, .ref la, .ref ia, .int (nI made), .int (nI ls), .int (nI ll)])), (na, .inr (0, [.int (nI m), .int (nI b), .int (nI x), .int (zb fr)])), (sa, .inl (cI, 4096, .inl (upd (zf rs) x (nI ls)))), (la, .inl (cI, 4096, .inl (upd (zf rl) x (nI (ll + 1))))), (ia, .inl (cB, 16384, .inl f))] 0 0 43 []) : zx_At p l e (zr 8 1 6) s mi args below meth co Q D zcl A 5 [(0, .ref a), (1, .int (nI c8))] [(a, .inr (2, [.ref na, .ref sa, .ref la, .ref ia, .int (nI made), .int (nI ls), .int (nI ll)])), (na, .inr (0, [.int (nI m), .int (nI b), .int (nI x), .int (zb fr)])), (sa, .inl (cI, 4096, .inl (zf rs))), (la, .inl (cI, 4096, .inl (zf rl))), (ia, .inl (cB, 16384, .inl f))] 0 0 0 [] := by
  refine zx_aload_n (pc := 0) C d_UN_takeCode_0 rfl 0 rfl ?_
  refine zx_get (pc := 1) (ci := 2) (Cn := R_UN) (T := T_UN) (N := 7) (v := .ref na) C zu_UN 0 rfl rfl 0 (by decide) zw_63 rfl rfl d_UN_takeCode_1 ?_
  refine zx_getN (pc := 4) (ci := 0) (Cn := R_NU) (T := T_NU) (N := 4) (v := .int (nI x)) C zu_NU 1 rfl rfl 2 (by decide) zw_50 rfl rfl d_UN_takeCode_4 ?_
  refine zx_istore_n (pc := 7) C d_UN_takeCode_7 rfl (by decide) (lv' := [(2, .int (nI x)), (0, .ref a), (1, .int (nI c8))]) rfl ?_
  refine zx_aload_n (pc := 8) C d_UN_takeCode_8 rfl 1 rfl ?_
  refine zx_get (pc := 9) (ci := 2) (Cn := R_UN) (T := T_UN) (N := 7) (v := .ref na) C zu_UN 0 rfl rfl 0 (by decide) zw_63 rfl rfl d_UN_takeCode_9 ?_
  refine zx_callV (pc := 12) (ix := 73) (As := []) (b := na) (q0 := 1) (wr := [(a, .inr (2, [.ref na, .ref sa, .ref la, .ref ia, .int (nI made), .int (nI ls), .int (nI ll)])), (sa, .inl (cI, 4096, .inl (zf rs))), (la, .inl (cI, 4096, .inl (zf rl))), (ia, .inl (cB, 16384, .inl f))]) (st := []) C (zx_cw.of (C.w zw_305)) (by decide +kernel) ⟨by decide +kernel, by decide +kernel⟩ zw_303 zw_304 zw_302 rfl rfl rfl rfl rfl (k_NU_nextCodeMakesRow l D cB cI cL na x (nI m) (nI b) fr hx) rfl [1] [0, 2, 3, 4] rfl rfl (by decide) (by decide) (by decide) (Nat.le_of_ble_eq_true rfl) (Nat.le_of_ble_eq_true rfl) (Nat.le_of_ble_eq_true rfl) (Nat.le_of_ble_eq_true rfl) d_UN_takeCode_12 (fun o w1 hp => ?_)
  obtain ⟨rfl, rfl⟩ := hp
  refine zx_ri (k2 := 0) (n2 := 0) rfl rfl ?_
  refine zx_ws (ws' := [(a, .inr (2, [.ref na, .ref sa, .ref la, .ref ia, .int (nI made), .int (nI ls), .int (nI ll)])), (na, .inr (0, [.int (nI m), .int (nI b), .int (nI x), .int (zb fr)])), (sa, .inl (cI, 4096, .inl (zf rs))), (la, .inl (cI, 4096, .inl (zf rl))), (ia, .inl (cB, 16384, .inl f))]) [0, 4, 1, 2, 3] (by decide) rfl ?_
  refine zx_if_eq (pc := 15) C 43 d_UN_takeCode_15 (by decide) (fun c15 => ?_) (fun c15 => ?_)
  · refine zx_lv (lv' := [(0, .ref a), (1, .int (nI c8)), (2, .int (nI x))]) [1, 2, 0] rfl ?_
    exact k43 c15
  · refine zx_aload_n (pc := 18) C d_UN_takeCode_18 rfl 1 rfl ?_
    refine zx_get (pc := 19) (ci := 2) (Cn := R_UN) (T := T_UN) (N := 7) (v := .ref sa) C zu_UN 0 rfl rfl 1 (by decide) zw_64 rfl rfl d_UN_takeCode_19 ?_
    refine zx_iload_n (pc := 22) C d_UN_takeCode_22 rfl 0 rfl ?_
    refine zx_aload_n (pc := 23) C d_UN_takeCode_23 rfl 1 rfl ?_
    refine zx_get (pc := 24) (ci := 2) (Cn := R_UN) (T := T_UN) (N := 7) (v := .int (nI ls)) C zu_UN 0 rfl rfl 5 (by decide) zw_68 rfl rfl d_UN_takeCode_24 ?_
    refine zx_iast (pc := 27) (ws' := [(a, .inr (2, [.ref na, .ref sa, .ref la, .ref ia, .int (nI made), .int (nI ls), .int (nI ll)])), (na, .inr (0, [.int (nI m), .int (nI b), .int (nI x), .int (zb fr)])), (sa, .inl (cI, 4096, .inl (upd (zf rs) x (nI ls)))), (la, .inl (cI, 4096, .inl (zf rl))), (ia, .inl (cB, 16384, .inl f))]) C 2 1 rfl rfl x (b27 c15).1 (b27 c15).2 (by decide) rfl d_UN_takeCode_27 ?_
    refine zx_aload_n (pc := 28) C d_UN_takeCode_28 rfl 1 rfl ?_
    refine zx_get (pc := 29) (ci := 2) (Cn := R_UN) (T := T_UN) (N := 7) (v := .ref la) C zu_UN 0 rfl rfl 2 (by decide) zw_65 rfl rfl d_UN_takeCode_29 ?_
    refine zx_iload_n (pc := 32) C d_UN_takeCode_32 rfl 0 rfl ?_
    refine zx_aload_n (pc := 33) C d_UN_takeCode_33 rfl 1 rfl ?_
    refine zx_get (pc := 34) (ci := 2) (Cn := R_UN) (T := T_UN) (N := 7) (v := .int (nI ll)) C zu_UN 0 rfl rfl 6 (by decide) zw_69 rfl rfl d_UN_takeCode_34 ?_
    refine zx_iconst (pc := 37) C d_UN_takeCode_37 (v := (1 : Int32)) (by decide) ?_
    refine zx_iadd (pc := 38) C d_UN_takeCode_38 ?_
    refine zx_seti (nI (ll + 1)) (e38 c15) ?_
    refine zx_iast (pc := 39) (ws' := [(a, .inr (2, [.ref na, .ref sa, .ref la, .ref ia, .int (nI made), .int (nI ls), .int (nI ll)])), (na, .inr (0, [.int (nI m), .int (nI b), .int (nI x), .int (zb fr)])), (sa, .inl (cI, 4096, .inl (upd (zf rs) x (nI ls)))), (la, .inl (cI, 4096, .inl (upd (zf rl) x (nI (ll + 1))))), (ia, .inl (cB, 16384, .inl f))]) C 3 1 rfl rfl x (b39 c15).1 (b39 c15).2 (by decide) rfl d_UN_takeCode_39 ?_
    refine zx_iinc (pc := 40) C d_UN_takeCode_40 0 rfl (v := (nI (x + 1))) (e40 c15) (by decide) (lv' := [(2, .int (nI (x + 1))), (0, .ref a), (1, .int (nI c8))]) rfl ?_
    refine zx_lv (lv' := [(0, .ref a), (1, .int (nI c8)), (2, .int (nI (x + 1)))]) [1, 2, 0] rfl ?_
    exact k43_2 c15

set_option maxRecDepth 100000 in
set_option maxHeartbeats 4000000 in
theorem sg_UN_take43 {p : Program} {l : Launch} {e : Env} {s : State} {mi : MethodId} {args : Array Value} {below : List Frame} {meth : Method} {co : Code} {D : va_G} {cB cI cL : ClassId} {w0 : va_W} {kr nr : Nat} {post : Outcome → va_W → Prop} (C : zx_C p s mi args co b_UN_takeCode 5 R_UN zB D zcl (zt cB cI cL) (va_A w0 s.heap.size)) {a na sa la ia m b x ls ll made c8 : Nat} {fr : Bool} {rs rl : Nat → Nat} {f : Nat → Int32} {kn : Nat} (hm : m < 16) (hc : c8 < 2 ^ 31) (hr9 : meth.sig.returnType = none) (hlk9 : meth.locks = false) (hl9 : l.stackTraces = false) (ht9 : co.exceptionTable.toList.map (fun h => (h.startPc, h.endPc, h.handlerPc, h.catchType)) = []) (b80 : ((nI c8) < (nI kn)) → ((zb (decide (c8 < 2 ^ m))) = 0) → (nI c8) = nI c8 ∧ c8 < 4096) (e80 : ((nI c8) < (nI kn)) → ((zb (decide (c8 < 2 ^ m))) = 0) → ((zf rl) c8) = (nI (rl c8))) (k83 : ((nI c8) < (nI kn)) → ((zb (decide (c8 < 2 ^ m))) = 0) → zx_At p l e (zr 8 1 6) s mi args below meth co (zx_Q below s D zcl w0 kr nr (zr 8 1 6) post) D zcl (va_A w0 s.heap.size) 5 [(0, .ref a), (1, .int (nI c8)), (2, .int (nI kn)), (3, .int (zb (decide (c8 < 2 ^ m)))), (4, .int (nI (rl c8)))] [(a, .inr (2, [.ref na, .ref sa, .ref la, .ref ia, .int (nI made), .int (nI ls), .int (nI ll)])), (na, .inr (0, [.int (nI m), .int (nI b), .int (nI x), .int (zb fr)])), (sa, .inl (cI, 4096, .inl (zf rs))), (la, .inl (cI, 4096, .inl (zf rl))), (ia, .inl (cB, 16384, .inl f))] 0 0 83 []) (k83_2 : ((nI c8) < (nI kn)) → (¬ (zb (decide (c8 < 2 ^ m))) = 0) → zx_At p l e (zr 8 1 6) s mi args below meth co (zx_Q below s D zcl w0 kr nr (zr 8 1 6) post) D zcl (va_A w0 s.heap.size) 5 [(0, .ref a), (1, .int (nI c8)), (2, .int (nI kn)), (3, .int (zb (decide (c8 < 2 ^ m)))), (4, .int (1 : Int32))] [(a, .inr (2, [.ref na, .ref sa, .ref la, .ref ia, .int (nI made), .int (nI ls), .int (nI ll)])), (na, .inr (0, [.int (nI m), .int (nI b), .int (nI x), .int (zb fr)])), (sa, .inl (cI, 4096, .inl (zf rs))), (la, .inl (cI, 4096, .inl (zf rl))), (ia, .inl (cB, 16384, .inl f))] 0 0 83 []) (t48 : (¬ (nI c8) < (nI kn)) → ∀ x9 : Nat, post (.threw x9) [(a, .inr (2, [.ref na, .ref sa, .ref la, .ref ia, .int (nI made), .int (nI ls), .int (nI ll)])), (na, .inr (0, [.int (nI m), .int (nI b), .int (nI x), .int (zb fr)])), (sa, .inl (cI, 4096, .inl (zf rs))), (la, .inl (cI, 4096, .inl (zf rl))), (ia, .inl (cB, 16384, .inl f)), (x9, .inr (7, []))]) : zx_At p l e (zr 8 1 6) s mi args below meth co (zx_Q below s D zcl w0 kr nr (zr 8 1 6) post) D zcl (va_A w0 s.heap.size) 5 [(0, .ref a), (1, .int (nI c8)), (2, .int (nI kn))] [(a, .inr (2, [.ref na, .ref sa, .ref la, .ref ia, .int (nI made), .int (nI ls), .int (nI ll)])), (na, .inr (0, [.int (nI m), .int (nI b), .int (nI x), .int (zb fr)])), (sa, .inl (cI, 4096, .inl (zf rs))), (la, .inl (cI, 4096, .inl (zf rl))), (ia, .inl (cB, 16384, .inl f))] 0 0 43 [] := by
  refine zx_iload_n (pc := 43) C d_UN_takeCode_43 rfl 1 rfl ?_
  refine zx_iload_n (pc := 44) C d_UN_takeCode_44 rfl 2 rfl ?_
  refine zx_icmp_lt (pc := 45) C 58 d_UN_takeCode_45 (by decide) (fun c45 => ?_) (fun c45 => ?_)
  · refine zx_aload_n (pc := 58) C d_UN_takeCode_58 rfl 0 rfl ?_
    refine zx_get (pc := 59) (ci := 2) (Cn := R_UN) (T := T_UN) (N := 7) (v := .ref na) C zu_UN 0 rfl rfl 0 (by decide) zw_63 rfl rfl d_UN_takeCode_59 ?_
    refine zx_iload_n (pc := 62) C d_UN_takeCode_62 rfl 1 rfl ?_
    refine zx_callV (pc := 63) (ix := 79) (As := [.int (nI c8)]) (b := na) (q0 := 1) (wr := [(a, .inr (2, [.ref na, .ref sa, .ref la, .ref ia, .int (nI made), .int (nI ls), .int (nI ll)])), (sa, .inl (cI, 4096, .inl (zf rs))), (la, .inl (cI, 4096, .inl (zf rl))), (ia, .inl (cB, 16384, .inl f))]) (st := []) C (zx_cw.of (C.w zw_329)) (by decide +kernel) ⟨by decide +kernel, by decide +kernel⟩ zw_327 zw_328 zw_326 rfl rfl rfl rfl rfl (k_NU_isIndex l D cB cI cL (zr 0 0 0) na m c8 (nI b) (nI x) (zb fr) hm hc) rfl [1] [0, 2, 3, 4] rfl rfl (by decide) (by decide) (by decide) (Nat.le_of_ble_eq_true rfl) (Nat.le_of_ble_eq_true rfl) (Nat.le_of_ble_eq_true rfl) (Nat.le_of_ble_eq_true rfl) d_UN_takeCode_63 (fun o w1 hp => ?_)
    obtain ⟨rfl, rfl⟩ := hp
    refine zx_ri (k2 := 0) (n2 := 0) rfl rfl ?_
    refine zx_ws (ws' := [(a, .inr (2, [.ref na, .ref sa, .ref la, .ref ia, .int (nI made), .int (nI ls), .int (nI ll)])), (na, .inr (0, [.int (nI m), .int (nI b), .int (nI x), .int (zb fr)])), (sa, .inl (cI, 4096, .inl (zf rs))), (la, .inl (cI, 4096, .inl (zf rl))), (ia, .inl (cB, 16384, .inl f))]) [0, 4, 1, 2, 3] (by decide) rfl ?_
    refine zx_istore_n (pc := 66) C d_UN_takeCode_66 rfl (by decide) (lv' := [(3, .int (zb (decide (c8 < 2 ^ m)))), (0, .ref a), (1, .int (nI c8)), (2, .int (nI kn))]) rfl ?_
    refine zx_iload_n (pc := 67) C d_UN_takeCode_67 rfl 0 rfl ?_
    refine zx_if_eq (pc := 68) C 75 d_UN_takeCode_68 (by decide) (fun c68 => ?_) (fun c68 => ?_)
    · refine zx_aload_n (pc := 75) C d_UN_takeCode_75 rfl 1 rfl ?_
      refine zx_get (pc := 76) (ci := 2) (Cn := R_UN) (T := T_UN) (N := 7) (v := .ref la) C zu_UN 0 rfl rfl 2 (by decide) zw_65 rfl rfl d_UN_takeCode_76 ?_
      refine zx_iload_n (pc := 79) C d_UN_takeCode_79 rfl 2 rfl ?_
      refine zx_iald (pc := 80) C 3 1 rfl rfl c8 (b80 c45 c68).1 (b80 c45 c68).2 (by decide) d_UN_takeCode_80 ?_
      refine zx_seti (nI (rl c8)) (e80 c45 c68) ?_
      refine zx_istore (pc := 81) C d_UN_takeCode_81 (by decide) (lv' := [(4, .int (nI (rl c8))), (3, .int (zb (decide (c8 < 2 ^ m)))), (0, .ref a), (1, .int (nI c8)), (2, .int (nI kn))]) rfl ?_
      refine zx_lv (lv' := [(0, .ref a), (1, .int (nI c8)), (2, .int (nI kn)), (3, .int (zb (decide (c8 < 2 ^ m)))), (4, .int (nI (rl c8)))]) [2, 3, 4, 1, 0] rfl ?_
      exact k83 c45 c68
    · refine zx_iconst (pc := 71) C d_UN_takeCode_71 (v := (1 : Int32)) (by decide) ?_
      refine zx_goto (pc := 72) C 81 d_UN_takeCode_72 (by decide) ?_
      refine zx_istore (pc := 81) C d_UN_takeCode_81 (by decide) (lv' := [(4, .int (1 : Int32)), (3, .int (zb (decide (c8 < 2 ^ m)))), (0, .ref a), (1, .int (nI c8)), (2, .int (nI kn))]) rfl ?_
      refine zx_lv (lv' := [(0, .ref a), (1, .int (nI c8)), (2, .int (nI kn)), (3, .int (zb (decide (c8 < 2 ^ m)))), (4, .int (1 : Int32))]) [2, 3, 4, 1, 0] rfl ?_
      exact k83_2 c45 c68
  · exact zx_throwS (pc := 48) (names := zex) (ci := 7) C hl9 (by decide +kernel) zex_fit zw_310 zw_13 zw_319 zh_UN_67 rfl hlk9 (zx_noTab ht9 _) d_UN_takeCode_48 d_UN_takeCode_51 d_UN_takeCode_52 d_UN_takeCode_54 d_UN_takeCode_57 (Nat.le_of_ble_eq_true rfl) (Nat.le_of_ble_eq_true rfl) (Nat.le_of_ble_eq_true rfl) (Nat.le_of_ble_eq_true rfl) (t48 c45)

set_option maxRecDepth 100000 in
set_option maxHeartbeats 4000000 in
theorem sg_UN_take83 {p : Program} {l : Launch} {e : Env} {s : State} {mi : MethodId} {args : Array Value} {below : List Frame} {meth : Method} {co : Code} {D : va_G} {cB cI cL : ClassId} {w0 : va_W} {kr nr : Nat} {post : Outcome → va_W → Prop} (C : zx_C p s mi args co b_UN_takeCode 5 R_UN zB D zcl (zt cB cI cL) (va_A w0 s.heap.size)) {a na sa la ia m b x ls ll made c8 : Nat} {fr : Bool} {rs rl : Nat → Nat} {f : Nat → Int32} {kn len : Nat} {sg : Bool} (hby : ∀ j, vp_nar .byte (f j) = f j) (hrep : nI len ≤ nI (16384 - made) → zb sg = 0 → made + len ≤ 16384 ∧ rs c8 ≤ made) (hr9 : meth.sig.returnType = none) (hlk9 : meth.locks = false) (hl9 : l.stackTraces = false) (ht9 : co.exceptionTable.toList.map (fun h => (h.startPc, h.endPc, h.handlerPc, h.catchType)) = []) (e92 : ((16384 : Int32) - (nI made)) = (nI (16384 - made))) (b130 : ((nI len) ≤ (nI (16384 - made))) → ((zb sg) = 0) → (nI c8) = nI c8 ∧ c8 < 4096) (e130 : ((nI len) ≤ (nI (16384 - made))) → ((zb sg) = 0) → ((zf rs) c8) = (nI (rs c8))) (k136 : ((nI len) ≤ (nI (16384 - made))) → ((zb sg) = 0) → zx_At p l e (zr 8 1 6) s mi args below meth co (zx_Q below s D zcl w0 kr nr (zr 8 1 6) post) D zcl (va_A w0 s.heap.size) 5 [(0, .ref a), (1, .int (nI c8)), (2, .int (nI kn)), (3, .int (zb sg)), (4, .int (nI len))] [(a, .inr (2, [.ref na, .ref sa, .ref la, .ref ia, .int (nI made), .int (nI ls), .int (nI ll)])), (na, .inr (0, [.int (nI m), .int (nI b), .int (nI x), .int (zb fr)])), (sa, .inl (cI, 4096, .inl (zf rs))), (la, .inl (cI, 4096, .inl (zf rl))), (ia, .inl (cB, 16384, .inl (zcp f made (rs c8) len)))] 0 0 136 []) (e119 : ((nI len) ≤ (nI (16384 - made))) → (¬ (zb sg) = 0) → ((nI c8).toInt8.toInt32) = (zby c8)) (b120 : ((nI len) ≤ (nI (16384 - made))) → (¬ (zb sg) = 0) → (nI made) = nI made ∧ made < 16384) (k136_2 : ((nI len) ≤ (nI (16384 - made))) → (¬ (zb sg) = 0) → zx_At p l e (zr 8 1 6) s mi args below meth co (zx_Q below s D zcl w0 kr nr (zr 8 1 6) post) D zcl (va_A w0 s.heap.size) 5 [(0, .ref a), (1, .int (nI c8)), (2, .int (nI kn)), (3, .int (zb sg)), (4, .int (nI len))] [(a, .inr (2, [.ref na, .ref sa, .ref la, .ref ia, .int (nI made), .int (nI ls), .int (nI ll)])), (na, .inr (0, [.int (nI m), .int (nI b), .int (nI x), .int (zb fr)])), (sa, .inl (cI, 4096, .inl (zf rs))), (la, .inl (cI, 4096, .inl (zf rl))), (ia, .inl (cB, 16384, .inl (upd f made (vp_nar .byte (zby c8)))))] 0 0 136 []) (t96 : (¬ (nI len) ≤ (nI (16384 - made))) → ∀ x9 : Nat, post (.threw x9) [(a, .inr (2, [.ref na, .ref sa, .ref la, .ref ia, .int (nI made), .int (nI ls), .int (nI ll)])), (na, .inr (0, [.int (nI m), .int (nI b), .int (nI x), .int (zb fr)])), (sa, .inl (cI, 4096, .inl (zf rs))), (la, .inl (cI, 4096, .inl (zf rl))), (ia, .inl (cB, 16384, .inl f)), (x9, .inr (8, []))]) : zx_At p l e (zr 8 1 6) s mi args below meth co (zx_Q below s D zcl w0 kr nr (zr 8 1 6) post) D zcl (va_A w0 s.heap.size) 5 [(0, .ref a), (1, .int (nI c8)), (2, .int (nI kn)), (3, .int (zb sg)), (4, .int (nI len))] [(a, .inr (2, [.ref na, .ref sa, .ref la, .ref ia, .int (nI made), .int (nI ls), .int (nI ll)])), (na, .inr (0, [.int (nI m), .int (nI b), .int (nI x), .int (zb fr)])), (sa, .inl (cI, 4096, .inl (zf rs))), (la, .inl (cI, 4096, .inl (zf rl))), (ia, .inl (cB, 16384, .inl f))] 0 0 83 [] := by
  refine zx_iload (pc := 83) C d_UN_takeCode_83 4 rfl ?_
  refine zx_sipush (pc := 85) C d_UN_takeCode_85 (v := (16384 : Int32)) (by decide) ?_
  refine zx_aload_n (pc := 88) C d_UN_takeCode_88 rfl 0 rfl ?_
  refine zx_get (pc := 89) (ci := 2) (Cn := R_UN) (T := T_UN) (N := 7) (v := .int (nI made)) C zu_UN 0 rfl rfl 4 (by decide) zw_67 rfl rfl d_UN_takeCode_89 ?_
  refine zx_isub (pc := 92) C d_UN_takeCode_92 ?_
  refine zx_seti (nI (16384 - made)) (e92) ?_
  refine zx_icmp_le (pc := 93) C 106 d_UN_takeCode_93 (by decide) (fun c93 => ?_) (fun c93 => ?_)
  · refine zx_iload_n (pc := 106) C d_UN_takeCode_106 rfl 3 rfl ?_
    refine zx_if_eq (pc := 107) C 124 d_UN_takeCode_107 (by decide) (fun c107 => ?_) (fun c107 => ?_)
    · refine zx_aload_n (pc := 124) C d_UN_takeCode_124 rfl 0 rfl ?_
      refine zx_aload_n (pc := 125) C d_UN_takeCode_125 rfl 0 rfl ?_
      refine zx_get (pc := 126) (ci := 2) (Cn := R_UN) (T := T_UN) (N := 7) (v := .ref sa) C zu_UN 0 rfl rfl 1 (by decide) zw_64 rfl rfl d_UN_takeCode_126 ?_
      refine zx_iload_n (pc := 129) C d_UN_takeCode_129 rfl 1 rfl ?_
      refine zx_iald (pc := 130) C 2 1 rfl rfl c8 (b130 c93 c107).1 (b130 c93 c107).2 (by decide) d_UN_takeCode_130 ?_
      refine zx_seti (nI (rs c8)) (e130 c93 c107) ?_
      refine zx_iload (pc := 131) C d_UN_takeCode_131 4 rfl ?_
      refine zx_callV (pc := 133) (ix := 88) (As := [.int (nI (rs c8)), .int (nI len)]) (b := a) (q0 := 0) (wr := [(na, .inr (0, [.int (nI m), .int (nI b), .int (nI x), .int (zb fr)])), (sa, .inl (cI, 4096, .inl (zf rs))), (la, .inl (cI, 4096, .inl (zf rl)))]) (st := []) C (zx_cw.of (C.w zw_336)) (by decide +kernel) ⟨by decide +kernel, by decide +kernel⟩ zw_335 zs_UN_repeat zw_333 rfl rfl rfl rfl rfl (k_UN_repeat l D cB cI cL (zr 0 0 0) a na sa la ia made (rs c8) len (nI ls) (nI ll) f hby (hrep c93 c107).1 (hrep c93 c107).2) rfl [0, 4] [1, 2, 3] rfl rfl (by decide) (by decide) (by decide) (Nat.le_of_ble_eq_true rfl) (Nat.le_of_ble_eq_true rfl) (Nat.le_of_ble_eq_true rfl) (Nat.le_of_ble_eq_true rfl) d_UN_takeCode_133 (fun o w1 hp => ?_)
      obtain ⟨rfl, rfl⟩ := hp
      refine zx_rv (k2 := 0) (n2 := 0) rfl rfl ?_
      refine zx_ws (ws' := [(a, .inr (2, [.ref na, .ref sa, .ref la, .ref ia, .int (nI made), .int (nI ls), .int (nI ll)])), (na, .inr (0, [.int (nI m), .int (nI b), .int (nI x), .int (zb fr)])), (sa, .inl (cI, 4096, .inl (zf rs))), (la, .inl (cI, 4096, .inl (zf rl))), (ia, .inl (cB, 16384, .inl (zcp f made (rs c8) len)))]) [3, 0, 1, 2, 4] (by decide) rfl ?_
      exact k136 c93 c107
    · refine zx_aload_n (pc := 110) C d_UN_takeCode_110 rfl 0 rfl ?_
      refine zx_get (pc := 111) (ci := 2) (Cn := R_UN) (T := T_UN) (N := 7) (v := .ref ia) C zu_UN 0 rfl rfl 3 (by decide) zw_66 rfl rfl d_UN_takeCode_111 ?_
      refine zx_aload_n (pc := 114) C d_UN_takeCode_114 rfl 0 rfl ?_
      refine zx_get (pc := 115) (ci := 2) (Cn := R_UN) (T := T_UN) (N := 7) (v := .int (nI made)) C zu_UN 0 rfl rfl 4 (by decide) zw_67 rfl rfl d_UN_takeCode_115 ?_
      refine zx_iload_n (pc := 118) C d_UN_takeCode_118 rfl 1 rfl ?_
      refine zx_i2b (pc := 119) C d_UN_takeCode_119 rfl ?_
      refine zx_seti (zby c8) (e119 c93 c107) ?_
      refine zx_bast (pc := 120) (ws' := [(a, .inr (2, [.ref na, .ref sa, .ref la, .ref ia, .int (nI made), .int (nI ls), .int (nI ll)])), (na, .inr (0, [.int (nI m), .int (nI b), .int (nI x), .int (zb fr)])), (sa, .inl (cI, 4096, .inl (zf rs))), (la, .inl (cI, 4096, .inl (zf rl))), (ia, .inl (cB, 16384, .inl (upd f made (vp_nar .byte (zby c8)))))]) C 4 0 rfl rfl made (b120 c93 c107).1 (b120 c93 c107).2 (by decide) rfl d_UN_takeCode_120 ?_
      refine zx_goto (pc := 121) C 136 d_UN_takeCode_121 (by decide) ?_
      exact k136_2 c93 c107
  · exact zx_throwS (pc := 96) (names := zex) (ci := 8) C hl9 (by decide +kernel) zex_fit zw_330 zw_10 zw_331 zh_UN_87 rfl hlk9 (zx_noTab ht9 _) d_UN_takeCode_96 d_UN_takeCode_99 d_UN_takeCode_100 d_UN_takeCode_102 d_UN_takeCode_105 (Nat.le_of_ble_eq_true rfl) (Nat.le_of_ble_eq_true rfl) (Nat.le_of_ble_eq_true rfl) (Nat.le_of_ble_eq_true rfl) (t96 c93)

set_option maxRecDepth 100000 in
set_option maxHeartbeats 4000000 in
theorem sg_UN_take136 {p : Program} {l : Launch} {e : Env} {s : State} {mi : MethodId} {args : Array Value} {below : List Frame} {meth : Method} {co : Code} {D : va_G} {cB cI cL : ClassId} {w0 : va_W} {kr nr : Nat} {post : Outcome → va_W → Prop} (C : zx_C p s mi args co b_UN_takeCode 5 R_UN zB D zcl (zt cB cI cL) (va_A w0 s.heap.size)) {a na sa la ia m b x ls ll made c8 : Nat} {fr : Bool} {rs rl : Nat → Nat} {f : Nat → Int32} {kn len : Nat} {sg : Bool} (hb : b < 16) (hx : x ≤ 4096) (hr9 : meth.sig.returnType = none) (hlk9 : meth.locks = false) (e157 : ((nI made) + (nI len)) = (nI (made + len))) (r168 : post (.returned none) [(a, .inr (2, [.ref na, .ref sa, .ref la, .ref ia, .int (nI (made + len)), .int (nI made), .int (nI len)])), (na, .inr (0, [.int (nI m), .int (nI (zn_b b x fr)), .int (nI (zn_x x fr)), .int 0])), (sa, .inl (cI, 4096, .inl (zf rs))), (la, .inl (cI, 4096, .inl (zf rl))), (ia, .inl (cB, 16384, .inl f))]) : zx_At p l e (zr 8 1 6) s mi args below meth co (zx_Q below s D zcl w0 kr nr (zr 8 1 6) post) D zcl (va_A w0 s.heap.size) 5 [(0, .ref a), (1, .int (nI c8)), (2, .int (nI kn)), (3, .int (zb sg)), (4, .int (nI len))] [(a, .inr (2, [.ref na, .ref sa, .ref la, .ref ia, .int (nI made), .int (nI ls), .int (nI ll)])), (na, .inr (0, [.int (nI m), .int (nI b), .int (nI x), .int (zb fr)])), (sa, .inl (cI, 4096, .inl (zf rs))), (la, .inl (cI, 4096, .inl (zf rl))), (ia, .inl (cB, 16384, .inl f))] 0 0 136 [] := by
  refine zx_aload_n (pc := 136) C d_UN_takeCode_136 rfl 0 rfl ?_
  refine zx_aload_n (pc := 137) C d_UN_takeCode_137 rfl 0 rfl ?_
  refine zx_get (pc := 138) (ci := 2) (Cn := R_UN) (T := T_UN) (N := 7) (v := .int (nI made)) C zu_UN 0 rfl rfl 4 (by decide) zw_67 rfl rfl d_UN_takeCode_138 ?_
  refine zx_put (pc := 141) (ci := 2) (Cn := R_UN) (T := T_UN) (N := 7) (v := .int (nI made)) (ty := .int) (ws' := [(a, .inr (2, [.ref na, .ref sa, .ref la, .ref ia, .int (nI made), .int (nI made), .int (nI ll)])), (na, .inr (0, [.int (nI m), .int (nI b), .int (nI x), .int (zb fr)])), (sa, .inl (cI, 4096, .inl (zf rs))), (la, .inl (cI, 4096, .inl (zf rl))), (ia, .inl (cB, 16384, .inl f))]) C zu_UN ty_UN tyk_UN nm_UN 0 rfl rfl 5 (by decide) zw_68 rfl rfl (by decide +kernel) rfl rfl (Nat.le_of_ble_eq_true rfl) rfl d_UN_takeCode_141 ?_
  refine zx_aload_n (pc := 144) C d_UN_takeCode_144 rfl 0 rfl ?_
  refine zx_iload (pc := 145) C d_UN_takeCode_145 4 rfl ?_
  refine zx_put (pc := 147) (ci := 2) (Cn := R_UN) (T := T_UN) (N := 7) (v := .int (nI len)) (ty := .int) (ws' := [(a, .inr (2, [.ref na, .ref sa, .ref la, .ref ia, .int (nI made), .int (nI made), .int (nI len)])), (na, .inr (0, [.int (nI m), .int (nI b), .int (nI x), .int (zb fr)])), (sa, .inl (cI, 4096, .inl (zf rs))), (la, .inl (cI, 4096, .inl (zf rl))), (ia, .inl (cB, 16384, .inl f))]) C zu_UN ty_UN tyk_UN nm_UN 0 rfl rfl 6 (by decide) zw_69 rfl rfl (by decide +kernel) rfl rfl (Nat.le_of_ble_eq_true rfl) rfl d_UN_takeCode_147 ?_
  refine zx_aload_n (pc := 150) C d_UN_takeCode_150 rfl 0 rfl ?_
  refine zx_dup (pc := 151) C d_UN_takeCode_151 rfl ?_
  refine zx_get (pc := 152) (ci := 2) (Cn := R_UN) (T := T_UN) (N := 7) (v := .int (nI made)) C zu_UN 0 rfl rfl 4 (by decide) zw_67 rfl rfl d_UN_takeCode_152 ?_
  refine zx_iload (pc := 155) C d_UN_takeCode_155 4 rfl ?_
  refine zx_iadd (pc := 157) C d_UN_takeCode_157 ?_
  refine zx_seti (nI (made + len)) (e157) ?_
  refine zx_put (pc := 158) (ci := 2) (Cn := R_UN) (T := T_UN) (N := 7) (v := .int (nI (made + len))) (ty := .int) (ws' := [(a, .inr (2, [.ref na, .ref sa, .ref la, .ref ia, .int (nI (made + len)), .int (nI made), .int (nI len)])), (na, .inr (0, [.int (nI m), .int (nI b), .int (nI x), .int (zb fr)])), (sa, .inl (cI, 4096, .inl (zf rs))), (la, .inl (cI, 4096, .inl (zf rl))), (ia, .inl (cB, 16384, .inl f))]) C zu_UN ty_UN tyk_UN nm_UN 0 rfl rfl 4 (by decide) zw_67 rfl rfl (by decide +kernel) rfl rfl (Nat.le_of_ble_eq_true rfl) rfl d_UN_takeCode_158 ?_
  refine zx_aload_n (pc := 161) C d_UN_takeCode_161 rfl 0 rfl ?_
  refine zx_get (pc := 162) (ci := 2) (Cn := R_UN) (T := T_UN) (N := 7) (v := .ref na) C zu_UN 0 rfl rfl 0 (by decide) zw_63 rfl rfl d_UN_takeCode_162 ?_
  refine zx_callV (pc := 165) (ix := 92) (As := []) (b := na) (q0 := 1) (wr := [(a, .inr (2, [.ref na, .ref sa, .ref la, .ref ia, .int (nI (made + len)), .int (nI made), .int (nI len)])), (sa, .inl (cI, 4096, .inl (zf rs))), (la, .inl (cI, 4096, .inl (zf rl))), (ia, .inl (cB, 16384, .inl f))]) (st := []) C (zx_cw.of (C.w zw_340)) (by decide +kernel) ⟨by decide +kernel, by decide +kernel⟩ zw_338 zw_339 zw_337 rfl rfl rfl rfl rfl (k_NU_passCode l D cB cI cL na b x (nI m) fr hb hx) rfl [1] [0, 2, 3, 4] rfl rfl (by decide) (by decide) (by decide) (Nat.le_of_ble_eq_true rfl) (Nat.le_of_ble_eq_true rfl) (Nat.le_of_ble_eq_true rfl) (Nat.le_of_ble_eq_true rfl) d_UN_takeCode_165 (fun o w1 hp => ?_)
  obtain ⟨rfl, rfl⟩ := hp
  refine zx_rv (k2 := 0) (n2 := 0) rfl rfl ?_
  refine zx_ws (ws' := [(a, .inr (2, [.ref na, .ref sa, .ref la, .ref ia, .int (nI (made + len)), .int (nI made), .int (nI len)])), (na, .inr (0, [.int (nI m), .int (nI (zn_b b x fr)), .int (nI (zn_x x fr)), .int 0])), (sa, .inl (cI, 4096, .inl (zf rs))), (la, .inl (cI, 4096, .inl (zf rl))), (ia, .inl (cB, 16384, .inl f))]) [0, 4, 1, 2, 3] (by decide) rfl ?_
  exact zx_vret (pc := 168) C hr9 hlk9 (Nat.zero_le _) (Nat.zero_le _) d_UN_takeCode_168 (r168)

/-- what takeCode gives: no such row; too many; the code taken -/
def zp_take (a na sa la ia m b x ls ll made c8 : Nat) (fr : Bool) (rs rl : Nat → Nat) (f : Nat → Int32) (cB cI : ClassId) : Outcome → va_W → Prop := fun o w =>
  (zn_x x fr ≤ c8 ∧ ∃ x0 : Nat, o = .threw x0 ∧ w = [(a, .inr (2, [.ref na, .ref sa, .ref la, .ref ia, .int (nI made), .int (nI ls), .int (nI ll)])), (na, .inr (0, [.int (nI m), .int (nI b), .int (nI x), .int (zb fr)])), (sa, .inl (cI, 4096, .inl (zf (zd_rs rs x ls fr)))), (la, .inl (cI, 4096, .inl (zf (zd_rl rl x ll fr)))), (ia, .inl (cB, 16384, .inl f)), (x0, .inr (7, []))]) ∨
  ((c8 < zn_x x fr ∧ 16384 - made < (zd_len m c8 (zd_rl rl x ll fr))) ∧ ∃ x0 : Nat, o = .threw x0 ∧ w = [(a, .inr (2, [.ref na, .ref sa, .ref la, .ref ia, .int (nI made), .int (nI ls), .int (nI ll)])), (na, .inr (0, [.int (nI m), .int (nI b), .int (nI x), .int (zb fr)])), (sa, .inl (cI, 4096, .inl (zf (zd_rs rs x ls fr)))), (la, .inl (cI, 4096, .inl (zf (zd_rl rl x ll fr)))), (ia, .inl (cB, 16384, .inl f)), (x0, .inr (8, []))]) ∨
  ((c8 < zn_x x fr ∧ (zd_len m c8 (zd_rl rl x ll fr)) ≤ 16384 - made) ∧ o = .returned none ∧ w = [(a, .inr (2, [.ref na, .ref sa, .ref la, .ref ia, .int (nI (made + (zd_len m c8 (zd_rl rl x ll fr)))), .int (nI made), .int (nI (zd_len m c8 (zd_rl rl x ll fr)))])), (na, .inr (0, [.int (nI m), .int (nI (zn_b b x fr)), .int (nI (zn_x x fr)), .int 0])), (sa, .inl (cI, 4096, .inl (zf (zd_rs rs x ls fr)))), (la, .inl (cI, 4096, .inl (zf (zd_rl rl x ll fr)))), (ia, .inl (cB, 16384, .inl (zd_out m c8 f made (zd_rs rs x ls fr) (zd_rl rl x ll fr))))])
set_option maxHeartbeats 2000000 in
theorem k_UN_takeCode (l : Launch) (D : va_G) (cB cI cL : ClassId) (hl : l.stackTraces = false) (a na sa la ia m b x ls ll made c8 : Nat) (fr : Bool) (rs rl : Nat → Nat) (f : Nat → Int32) (hm : m ≤ 8) (hb : b < 16) (hx : x ≤ 4096) (hc : c8 < 4096) (hmd : made ≤ 16384) (hby : ∀ j, vp_nar .byte (f j) = f j) (hrow : c8 < zn_x x fr → 2 ^ m ≤ c8 → zd_rs rs x ls fr c8 ≤ made ∧ zd_rl rl x ll fr c8 ≤ 16385) : zx_K l zB D zcl (zt cB cI cL) y_UN_takeCode b_UN_takeCode 5 (none) [] 0 0 (zr 8 1 6) [.ref a, .int (nI c8)] [(a, .inr (2, [.ref na, .ref sa, .ref la, .ref ia, .int (nI made), .int (nI ls), .int (nI ll)])), (na, .inr (0, [.int (nI m), .int (nI b), .int (nI x), .int (zb fr)])), (sa, .inl (cI, 4096, .inl (zf rs))), (la, .inl (cI, 4096, .inl (zf rl))), (ia, .inl (cB, 16384, .inl f))] (zp_take a na sa la ia m b x ls ll made c8 fr rs rl f cB cI) := by
  refine zx_K.mk (Nat.le_of_ble_eq_true rfl) (fun p e s mm below meth c9 C hr hlk ht hnm => ?_)
  have hp8 := zp_pow8 hm
  have hzx : zn_x x fr ≤ 4097 := by unfold zn_x; split <;> omega
  have k136 : c8 < zn_x x fr → (zd_len m c8 (zd_rl rl x ll fr)) ≤ 16384 - made → zx_At p l e (zr 8 1 6) s mm (([.ref a, .int (nI c8)] : List Value)).toArray below meth c9 (zx_Q below s D zcl [(a, .inr (2, [.ref na, .ref sa, .ref la, .ref ia, .int (nI made), .int (nI ls), .int (nI ll)])), (na, .inr (0, [.int (nI m), .int (nI b), .int (nI x), .int (zb fr)])), (sa, .inl (cI, 4096, .inl (zf rs))), (la, .inl (cI, 4096, .inl (zf rl))), (ia, .inl (cB, 16384, .inl f))] 0 0 (zr 8 1 6) (zp_take a na sa la ia m b x ls ll made c8 fr rs rl f cB cI)) D zcl (va_A [(a, .inr (2, [.ref na, .ref sa, .ref la, .ref ia, .int (nI made), .int (nI ls), .int (nI ll)])), (na, .inr (0, [.int (nI m), .int (nI b), .int (nI x), .int (zb fr)])), (sa, .inl (cI, 4096, .inl (zf rs))), (la, .inl (cI, 4096, .inl (zf rl))), (ia, .inl (cB, 16384, .inl f))] s.heap.size) 5 [(0, .ref a), (1, .int (nI c8)), (2, .int (nI (zn_x x fr))), (3, .int (zb (decide (c8 < 2 ^ m)))), (4, .int (nI (zd_len m c8 (zd_rl rl x ll fr))))] [(a, .inr (2, [.ref na, .ref sa, .ref la, .ref ia, .int (nI made), .int (nI ls), .int (nI ll)])), (na, .inr (0, [.int (nI m), .int (nI b), .int (nI x), .int (zb fr)])), (sa, .inl (cI, 4096, .inl (zf (zd_rs rs x ls fr)))), (la, .inl (cI, 4096, .inl (zf (zd_rl rl x ll fr)))), (ia, .inl (cB, 16384, .inl (zd_out m c8 f made (zd_rs rs x ls fr) (zd_rl rl x ll fr))))] 0 0 136 [] := fun q1 q2 =>
    sg_UN_take136 C hb hx hr hlk (nI_add _ _) (Or.inr (Or.inr ⟨⟨q1, q2⟩, rfl, rfl⟩))
  have k83 : c8 < zn_x x fr → zx_At p l e (zr 8 1 6) s mm (([.ref a, .int (nI c8)] : List Value)).toArray below meth c9 (zx_Q below s D zcl [(a, .inr (2, [.ref na, .ref sa, .ref la, .ref ia, .int (nI made), .int (nI ls), .int (nI ll)])), (na, .inr (0, [.int (nI m), .int (nI b), .int (nI x), .int (zb fr)])), (sa, .inl (cI, 4096, .inl (zf rs))), (la, .inl (cI, 4096, .inl (zf rl))), (ia, .inl (cB, 16384, .inl f))] 0 0 (zr 8 1 6) (zp_take a na sa la ia m b x ls ll made c8 fr rs rl f cB cI)) D zcl (va_A [(a, .inr (2, [.ref na, .ref sa, .ref la, .ref ia, .int (nI made), .int (nI ls), .int (nI ll)])), (na, .inr (0, [.int (nI m), .int (nI b), .int (nI x), .int (zb fr)])), (sa, .inl (cI, 4096, .inl (zf rs))), (la, .inl (cI, 4096, .inl (zf rl))), (ia, .inl (cB, 16384, .inl f))] s.heap.size) 5 [(0, .ref a), (1, .int (nI c8)), (2, .int (nI (zn_x x fr))), (3, .int (zb (decide (c8 < 2 ^ m)))), (4, .int (nI (zd_len m c8 (zd_rl rl x ll fr))))] [(a, .inr (2, [.ref na, .ref sa, .ref la, .ref ia, .int (nI made), .int (nI ls), .int (nI ll)])), (na, .inr (0, [.int (nI m), .int (nI b), .int (nI x), .int (zb fr)])), (sa, .inl (cI, 4096, .inl (zf (zd_rs rs x ls fr)))), (la, .inl (cI, 4096, .inl (zf (zd_rl rl x ll fr)))), (ia, .inl (cB, 16384, .inl f))] 0 0 83 [] := fun q1 => by
    have hlen : (zd_len m c8 (zd_rl rl x ll fr)) ≤ 16385 := by
      unfold zd_len
      split
      · decide
      · exact (hrow q1 (by omega)).2
    have key : nI (zd_len m c8 (zd_rl rl x ll fr)) ≤ nI (16384 - made) ↔ (zd_len m c8 (zd_rl rl x ll fr)) ≤ 16384 - made := nI_leI (by omega) (by omega)
    refine sg_UN_take83 C hby (fun z1 z2 => ?_) hr hlk hl ht (pk_sub (a := 16384) (b := made) hmd) ?_ ?_ ?_ ?_ ?_ ?_ ?_
    · have q3 := zb_d.mp z2
      have q2 := key.mp z1
      exact ⟨by omega, (hrow q1 (by omega)).1⟩
    · exact fun _ _ => ⟨rfl, hc⟩
    · exact fun _ _ => rfl
    · intro z1 z2
      have q3 := zb_d.mp z2
      have h := k136 q1 (key.mp z1)
      rw [show zd_out m c8 f made (zd_rs rs x ls fr) (zd_rl rl x ll fr) = zcp f made ((zd_rs rs x ls fr) c8) (zd_len m c8 (zd_rl rl x ll fr)) by rw [zd_out, if_neg q3, zd_len, if_neg q3]] at h
      exact h
    · exact fun _ _ => rfl
    · intro z1 z2
      have q3 : c8 < 2 ^ m := by
        by_cases q : c8 < 2 ^ m
        · exact q
        · exact absurd (zb_d.mpr q) z2
      have q2 := key.mp z1
      rw [zd_len, if_pos q3] at q2
      exact ⟨rfl, by omega⟩
    · intro z1 z2
      have q3 : c8 < 2 ^ m := by
        by_cases q : c8 < 2 ^ m
        · exact q
        · exact absurd (zb_d.mpr q) z2
      have h := k136 q1 (key.mp z1)
      rw [show zd_out m c8 f made (zd_rs rs x ls fr) (zd_rl rl x ll fr) = upd f made (vp_nar .byte (zby c8)) by rw [zd_out, if_pos q3, zby_nar]] at h
      exact h
    · intro z x0
      exact Or.inr (Or.inl ⟨⟨q1, Nat.lt_of_not_le (fun y => z (key.mpr y))⟩, x0, rfl, rfl⟩)
  have k43 : zx_At p l e (zr 8 1 6) s mm (([.ref a, .int (nI c8)] : List Value)).toArray below meth c9 (zx_Q below s D zcl [(a, .inr (2, [.ref na, .ref sa, .ref la, .ref ia, .int (nI made), .int (nI ls), .int (nI ll)])), (na, .inr (0, [.int (nI m), .int (nI b), .int (nI x), .int (zb fr)])), (sa, .inl (cI, 4096, .inl (zf rs))), (la, .inl (cI, 4096, .inl (zf rl))), (ia, .inl (cB, 16384, .inl f))] 0 0 (zr 8 1 6) (zp_take a na sa la ia m b x ls ll made c8 fr rs rl f cB cI)) D zcl (va_A [(a, .inr (2, [.ref na, .ref sa, .ref la, .ref ia, .int (nI made), .int (nI ls), .int (nI ll)])), (na, .inr (0, [.int (nI m), .int (nI b), .int (nI x), .int (zb fr)])), (sa, .inl (cI, 4096, .inl (zf rs))), (la, .inl (cI, 4096, .inl (zf rl))), (ia, .inl (cB, 16384, .inl f))] s.heap.size) 5 [(0, .ref a), (1, .int (nI c8)), (2, .int (nI (zn_x x fr)))] [(a, .inr (2, [.ref na, .ref sa, .ref la, .ref ia, .int (nI made), .int (nI ls), .int (nI ll)])), (na, .inr (0, [.int (nI m), .int (nI b), .int (nI x), .int (zb fr)])), (sa, .inl (cI, 4096, .inl (zf (zd_rs rs x ls fr)))), (la, .inl (cI, 4096, .inl (zf (zd_rl rl x ll fr)))), (ia, .inl (cB, 16384, .inl f))] 0 0 43 [] := by
    have key : nI c8 < nI (zn_x x fr) ↔ c8 < zn_x x fr := nI_ltI (by omega) (by omega)
    refine sg_UN_take43 C (by omega) (by omega) hr hlk hl ht (fun _ _ => ⟨rfl, hc⟩) (fun _ _ => rfl) (fun z1 z2 => ?_) (fun z1 z2 => ?_) (fun z x0 => Or.inl ⟨Nat.le_of_not_lt (fun y => z (key.mpr y)), x0, rfl, rfl⟩)
    · have q3 := zb_d.mp z2
      have h := k83 (key.mp z1)
      rw [show (zd_len m c8 (zd_rl rl x ll fr)) = (zd_rl rl x ll fr) c8 from if_neg q3] at h
      exact h
    · have q3 : c8 < 2 ^ m := by
        by_cases q : c8 < 2 ^ m
        · exact q
        · exact absurd (zb_d.mpr q) z2
      have h := k83 (key.mp z1)
      rw [show (zd_len m c8 (zd_rl rl x ll fr)) = 1 from if_pos q3] at h
      exact h
  have hcond : ¬ zb (!fr && decide (x < 4096)) = 0 → fr = false ∧ x < 4096 := fun h => by
    cases hq : (!fr && decide (x < 4096)) with
    | false => rw [hq] at h; exact absurd rfl h
    | true =>
      simp only [Bool.and_eq_true, Bool.not_eq_true', decide_eq_true_eq] at hq
      exact hq
  refine sg_UN_take0 C (by omega) (fun z => ?_) (fun z => ⟨rfl, (hcond z).2⟩) (fun _ => nI_1 ll) (fun z => ⟨rfl, (hcond z).2⟩) (fun _ => nI_1 x) (fun z => ?_)
  · have n : ¬ (fr = false ∧ x < 4096) := fun q => by
      rw [q.1, decide_eq_true q.2] at z
      exact absurd z (by decide)
    rw [show zn_x x fr = x from if_neg n, show zd_rs rs x ls fr = rs from if_neg n, show zd_rl rl x ll fr = rl from if_neg n] at k43
    exact k43
  · have n := hcond z
    rw [show zn_x x fr = x + 1 from if_pos n, show zd_rs rs x ls fr = updN rs x ls from if_pos n, show zd_rl rl x ll fr = updN rl x (ll + 1) from if_pos n] at k43
    rw [zf_upd, zf_upd]
    exact k43
end
section
section ZWT
variable {p : Program} {l : Launch} {e : Env} {R : Room} {s : State} {m : MethodId} {args : Array Value} {below : List Frame} {meth : Method} {c : Code} {Q : State → Prop} {D : va_G} {cl : List vw_C} {A : Nat → Prop} {nL : Nat} {lv : List (Nat × Value)} {ws ws' : va_W} {kc ks pc : Nat} {st : List Value}
/-- fewer cells, in another order, while an exception is on its way -/
theorem zx_wsT {x : Nat} (is : List Nat) (hn : va_nd is = true) (hs : is.map (fun i => ws[i]?) = ws'.map some) (h : zx_Th p l e R s m args below meth c Q D cl A nL lv ws' kc ks pc st x) : zx_Th p l e R s m args below meth c Q D cl A nL lv ws kc ks pc st x := fun H locs ls hl hP hD hS => h H locs ls hl (hP.sub is (by
    have h1 : is.filterMap (fun i => ws[i]?) = (is.map (fun i => ws[i]?)).filterMap id := by rw [List.filterMap_map]; rfl
    rw [h1, hs, List.filterMap_map]
    exact List.filterMap_some)) (hD.sub is hn hs) hS
end ZWT
/-- the reader as a function: kind (0: ended, 2: broken, 3: too many), how many indices, the indices -/
def zd_run (m : Nat) (g : Nat → Nat → Nat) (all : Nat) : Nat → Nat → Nat → Nat → Bool → Nat → Nat → (Nat → Nat) → (Nat → Nat) → (Nat → Int32) → Nat → Nat × Nat × (Nat → Int32)
  | 0, _, _, _, _, _, _, _, _, f, made => (2, made, f)
  | d + 1, pl, b, x, fr, ls, ll, rs, rl, f, made =>
    if pl + b ≤ all then
      if g pl b = 2 ^ m + 1 then (0, made, f)
      else if g pl b = 2 ^ m then zd_run m g all d (pl + b) (m + 1) (2 ^ m + 2) true ls ll rs rl f made
      else if zn_x x fr ≤ g pl b then (2, made, f)
      else if 16384 - made < zd_len m (g pl b) (zd_rl rl x ll fr) then (3, made, f)
      else zd_run m g all d (pl + b) (zn_b b x fr) (zn_x x fr) false made (zd_len m (g pl b) (zd_rl rl x ll fr)) (zd_rs rs x ls fr) (zd_rl rl x ll fr) (zd_out m (g pl b) f made (zd_rs rs x ls fr) (zd_rl rl x ll fr)) (made + zd_len m (g pl b) (zd_rl rl x ll fr))
    else (2, made, f)
/-- what holds between codes -/
def zd_inv (m b x : Nat) (fr : Bool) (ls ll : Nat) (rs rl : Nat → Nat) (f : Nat → Int32) (made : Nat) : Prop := (m + 1 ≤ b ∧ b ≤ 12) ∧ (2 ^ m + 2 ≤ x ∧ x ≤ 4096) ∧ made ≤ 16384 ∧ (∀ j, vp_nar .byte (f j) = f j) ∧ (∀ j, 2 ^ m + 2 ≤ j → j < x → rs j ≤ made ∧ rl j ≤ 16385) ∧ (fr = false → ls ≤ made ∧ ll ≤ 16384)
theorem zd_inv_new {m ls ll : Nat} {rs rl : Nat → Nat} {f : Nat → Int32} {made : Nat} (hm : 2 ≤ m ∧ m ≤ 8) (h4 : made ≤ 16384) (hb : ∀ j, vp_nar .byte (f j) = f j) : zd_inv m (m + 1) (2 ^ m + 2) true ls ll rs rl f made := by
  have := zp_pow8 hm.2
  exact ⟨⟨Nat.le_refl _, by omega⟩, ⟨Nat.le_refl _, by omega⟩, h4, hb, fun j h1 h2 => by omega, fun h => by cases h⟩
theorem zd_row {m b x : Nat} {fr : Bool} {ls ll : Nat} {rs rl : Nat → Nat} {f : Nat → Int32} {made : Nat} (h : zd_inv m b x fr ls ll rs rl f made) {c : Nat} (h1 : c < zn_x x fr) (h2 : 2 ^ m + 2 ≤ c) : zd_rs rs x ls fr c ≤ made ∧ zd_rl rl x ll fr c ≤ 16385 := by
  obtain ⟨-, -, -, -, h5, h6⟩ := h
  unfold zd_rs zd_rl
  unfold zn_x at h1
  by_cases q : fr = false ∧ x < 4096
  · rw [if_pos q] at h1 ⊢
    rw [if_pos q]
    by_cases q2 : c = x
    · have := h6 q.1
      simp only [updN, if_pos q2]
      omega
    · simp only [updN, if_neg q2]
      exact h5 c h2 (by omega)
  · rw [if_neg q] at h1 ⊢
    rw [if_neg q]
    exact h5 c h2 h1
theorem zn_x_le {x : Nat} {fr : Bool} (h : x ≤ 4096) : x ≤ zn_x x fr ∧ zn_x x fr ≤ 4096 := by
  unfold zn_x
  by_cases q : fr = false ∧ x < 4096
  · rw [if_pos q]; omega
  · rw [if_neg q]; omega
theorem zn_b_le {b x : Nat} {fr : Bool} (h : b ≤ 12) : b ≤ zn_b b x fr ∧ zn_b b x fr ≤ 12 := by
  unfold zn_b
  by_cases q : fr = false ∧ x < 4096 ∧ x + 1 = 2 ^ b ∧ b < 12
  · rw [if_pos q]; omega
  · rw [if_neg q]; omega
theorem zd_inv_next {m b x : Nat} {fr : Bool} {ls ll : Nat} {rs rl : Nat → Nat} {f : Nat → Int32} {made c : Nat} (h : zd_inv m b x fr ls ll rs rl f made) (hl : zd_len m c (zd_rl rl x ll fr) ≤ 16384 - made) : zd_inv m (zn_b b x fr) (zn_x x fr) false made (zd_len m c (zd_rl rl x ll fr)) (zd_rs rs x ls fr) (zd_rl rl x ll fr) (zd_out m c f made (zd_rs rs x ls fr) (zd_rl rl x ll fr)) (made + zd_len m c (zd_rl rl x ll fr)) := by
  have hr : ∀ j, 2 ^ m + 2 ≤ j → j < zn_x x fr → _ := fun j h1 h2 => zd_row h h2 h1
  obtain ⟨h1, h2, h3, h4, -, -⟩ := h
  have a1 := zn_x_le (fr := fr) h2.2
  have a2 := zn_b_le (x := x) (fr := fr) h1.2
  refine ⟨by omega, by omega, by omega, fun j => ?_, fun j q1 q2 => ?_, fun _ => by omega⟩
  · unfold zd_out
    by_cases q : c < 2 ^ m
    · rw [if_pos q]
      by_cases q2 : j = made
      · rw [q2, pk_us]; exact zby_nar c
      · rw [pk_un q2]; exact h4 j
    · rw [if_neg q]; exact zcp_by h4 _ j
  · have := hr j q1 q2
    omega
set_option maxRecDepth 100000 in
set_option maxHeartbeats 4000000 in
theorem sg_UN_read0 {p : Program} {l : Launch} {e : Env} {s : State} {mi : MethodId} {args : Array Value} {below : List Frame} {meth : Method} {co : Code} {D : va_G} {cB cI cL : ClassId} {Q : State → Prop} {A : Nat → Prop} (C : zx_C p s mi args co b_UN_read 9 R_UN zB D zcl (zt cB cI cL) A) {a na sa la i0 t ia m n ls ll : Nat} {rs rl : Nat → Nat} {ft f : Nat → Int32} {m9 b9 x9 f9 made9 : Int32} (hm : m < 16) (e22 : ((8 : Int32) * (nI n)) = (nI (8 * n))) (k31 : zx_At p l e (zr 9 1 6) s mi args below meth co Q D zcl A 9 [(0, .ref a), (1, .ref t), (2, .int (nI n)), (3, .int (nI m)), (4, .ref ia), (5, .int (nI (8 * n))), (6, .int (0 : Int32)), (7, .int (0 : Int32))] [(a, .inr (2, [.ref na, .ref sa, .ref la, .ref ia, .int (0 : Int32), .int (nI ls), .int (nI ll)])), (na, .inr (0, [.int (nI m), .int (nI (m + 1)), .int (nI (2 ^ m + 2)), .int 1])), (sa, .inl (cI, 4096, .inl (zf rs))), (la, .inl (cI, 4096, .inl (zf rl))), (t, .inl (cB, 16384, .inl ft)), (ia, .inl (cB, 16384, .inl f))] 0 0 31 []) : zx_At p l e (zr 9 1 6) s mi args below meth co Q D zcl A 9 [(0, .ref a), (1, .ref t), (2, .int (nI n)), (3, .int (nI m)), (4, .ref ia)] [(a, .inr (2, [.ref na, .ref sa, .ref la, .ref i0, .int made9, .int (nI ls), .int (nI ll)])), (na, .inr (0, [.int m9, .int b9, .int x9, .int f9])), (sa, .inl (cI, 4096, .inl (zf rs))), (la, .inl (cI, 4096, .inl (zf rl))), (t, .inl (cB, 16384, .inl ft)), (ia, .inl (cB, 16384, .inl f))] 0 0 0 [] := by
  refine zx_aload_n (pc := 0) C d_UN_read_0 rfl 0 rfl ?_
  refine zx_get (pc := 1) (ci := 2) (Cn := R_UN) (T := T_UN) (N := 7) (v := .ref na) C zu_UN 0 rfl rfl 0 (by decide) zw_63 rfl rfl d_UN_read_1 ?_
  refine zx_iload_n (pc := 4) C d_UN_read_4 rfl 3 rfl ?_
  refine zx_callV (pc := 5) (ix := 39) (As := [.int (nI m)]) (b := na) (q0 := 1) (wr := [(a, .inr (2, [.ref na, .ref sa, .ref la, .ref i0, .int made9, .int (nI ls), .int (nI ll)])), (sa, .inl (cI, 4096, .inl (zf rs))), (la, .inl (cI, 4096, .inl (zf rl))), (t, .inl (cB, 16384, .inl ft)), (ia, .inl (cB, 16384, .inl f))]) (st := []) C (zx_cw.of (C.w zw_281)) (by decide +kernel) ⟨by decide +kernel, by decide +kernel⟩ zw_279 zw_280 zw_278 rfl rfl rfl rfl rfl (k_NU_startWith l D cB cI cL na m m9 b9 x9 f9 hm) rfl [1] [0, 2, 3, 4, 5] rfl rfl (by decide) (by decide) (by decide) (Nat.le_of_ble_eq_true rfl) (Nat.le_of_ble_eq_true rfl) (Nat.le_of_ble_eq_true rfl) (Nat.le_of_ble_eq_true rfl) d_UN_read_5 (fun o w1 hp => ?_)
  obtain ⟨rfl, rfl⟩ := hp
  refine zx_rv (k2 := 0) (n2 := 0) rfl rfl ?_
  refine zx_ws (ws' := [(a, .inr (2, [.ref na, .ref sa, .ref la, .ref i0, .int made9, .int (nI ls), .int (nI ll)])), (na, .inr (0, [.int (nI m), .int (nI (m + 1)), .int (nI (2 ^ m + 2)), .int 1])), (sa, .inl (cI, 4096, .inl (zf rs))), (la, .inl (cI, 4096, .inl (zf rl))), (t, .inl (cB, 16384, .inl ft)), (ia, .inl (cB, 16384, .inl f))]) [0, 5, 1, 2, 3, 4] (by decide) rfl ?_
  refine zx_aload_n (pc := 8) C d_UN_read_8 rfl 0 rfl ?_
  refine zx_aload (pc := 9) C d_UN_read_9 4 rfl ?_
  refine zx_put (pc := 11) (ci := 2) (Cn := R_UN) (T := T_UN) (N := 7) (v := .ref ia) (ty := .array .byte) (ws' := [(a, .inr (2, [.ref na, .ref sa, .ref la, .ref ia, .int made9, .int (nI ls), .int (nI ll)])), (na, .inr (0, [.int (nI m), .int (nI (m + 1)), .int (nI (2 ^ m + 2)), .int 1])), (sa, .inl (cI, 4096, .inl (zf rs))), (la, .inl (cI, 4096, .inl (zf rl))), (t, .inl (cB, 16384, .inl ft)), (ia, .inl (cB, 16384, .inl f))]) C zu_UN ty_UN tyk_UN nm_UN 0 rfl rfl 3 (by decide) zw_66 rfl rfl (by decide +kernel) rfl rfl (Nat.le_of_ble_eq_true rfl) rfl d_UN_read_11 ?_
  refine zx_aload_n (pc := 14) C d_UN_read_14 rfl 0 rfl ?_
  refine zx_iconst (pc := 15) C d_UN_read_15 (v := (0 : Int32)) (by decide) ?_
  refine zx_put (pc := 16) (ci := 2) (Cn := R_UN) (T := T_UN) (N := 7) (v := .int (0 : Int32)) (ty := .int) (ws' := [(a, .inr (2, [.ref na, .ref sa, .ref la, .ref ia, .int (0 : Int32), .int (nI ls), .int (nI ll)])), (na, .inr (0, [.int (nI m), .int (nI (m + 1)), .int (nI (2 ^ m + 2)), .int 1])), (sa, .inl (cI, 4096, .inl (zf rs))), (la, .inl (cI, 4096, .inl (zf rl))), (t, .inl (cB, 16384, .inl ft)), (ia, .inl (cB, 16384, .inl f))]) C zu_UN ty_UN tyk_UN nm_UN 0 rfl rfl 4 (by decide) zw_67 rfl rfl (by decide +kernel) rfl rfl (Nat.le_of_ble_eq_true rfl) rfl d_UN_read_16 ?_
  refine zx_bipush (pc := 19) C d_UN_read_19 (v := (8 : Int32)) (by decide) ?_
  refine zx_iload_n (pc := 21) C d_UN_read_21 rfl 2 rfl ?_
  refine zx_imul (pc := 22) C d_UN_read_22 ?_
  refine zx_seti (nI (8 * n)) (e22) ?_
  refine zx_istore (pc := 23) C d_UN_read_23 (by decide) (lv' := [(5, .int (nI (8 * n))), (0, .ref a), (1, .ref t), (2, .int (nI n)), (3, .int (nI m)), (4, .ref ia)]) rfl ?_
  refine zx_iconst (pc := 25) C d_UN_read_25 (v := (0 : Int32)) (by decide) ?_
  refine zx_istore (pc := 26) C d_UN_read_26 (by decide) (lv' := [(6, .int (0 : Int32)), (5, .int (nI (8 * n))), (0, .ref a), (1, .ref t), (2, .int (nI n)), (3, .int (nI m)), (4, .ref ia)]) rfl ?_
  refine zx_iconst (pc := 28) C d_UN_read_28 (v := (0 : Int32)) (by decide) ?_
  refine zx_istore (pc := 29) C d_UN_read_29 (by decide) (lv' := [(7, .int (0 : Int32)), (6, .int (0 : Int32)), (5, .int (nI (8 * n))), (0, .ref a), (1, .ref t), (2, .int (nI n)), (3, .int (nI m)), (4, .ref ia)]) rfl ?_
  refine zx_lv (lv' := [(0, .ref a), (1, .ref t), (2, .int (nI n)), (3, .int (nI m)), (4, .ref ia), (5, .int (nI (8 * n))), (6, .int (0 : Int32)), (7, .int (0 : Int32))]) [3, 4, 5, 6, 7, 2, 1, 0] rfl ?_
  exact k31

set_option maxRecDepth 100000 in
set_option maxHeartbeats 4000000 in
theorem sg_UN_read31 {p : Program} {l : Launch} {e : Env} {s : State} {mi : MethodId} {args : Array Value} {below : List Frame} {meth : Method} {co : Code} {D : va_G} {cB cI cL : ClassId} {w0 : va_W} {kr nr : Nat} {post : Outcome → va_W → Prop} (C : zx_C p s mi args co b_UN_read 9 R_UN zB D zcl (zt cB cI cL) (va_A w0 s.heap.size)) {a na sa la t ia m n b x ls ll made pl cd : Nat} {fr : Bool} {rs rl : Nat → Nat} {ft f : Nat → Int32} (hn : n ≤ 16384) (hm : m ≤ 8) (hb : b ≤ 12) (hx : x ≤ 4096) (hmd : made ≤ 16384) (hby : ∀ j, vp_nar .byte (f j) = f j) (hc : zcode ft n pl b < 4096) (hco : ¬ (nI (8 * n)) < (nI (pl + b)) → pl + b ≤ 8 * n) (hrow : ¬ nI (zcode ft n pl b) = nI (2 ^ m + 1) → ¬ nI (zcode ft n pl b) = nI (2 ^ m) → zcode ft n pl b < zn_x x fr → 2 ^ m ≤ zcode ft n pl b → zd_rs rs x ls fr (zcode ft n pl b) ≤ made ∧ zd_rl rl x ll fr (zcode ft n pl b) ≤ 16385) (hr9 : meth.sig.returnType = some .int) (hlk9 : meth.locks = false) (hl9 : l.stackTraces = false) (ht9 : co.exceptionTable.toList.map (fun h => (h.startPc, h.endPc, h.handlerPc, h.catchType)) = []) (t132 : ((nI (8 * n)) ≤ (nI cd)) → ∀ x9 : Nat, post (.threw x9) [(a, .inr (2, [.ref na, .ref sa, .ref la, .ref ia, .int (nI made), .int (nI ls), .int (nI ll)])), (na, .inr (0, [.int (nI m), .int (nI b), .int (nI x), .int (zb fr)])), (sa, .inl (cI, 4096, .inl (zf rs))), (la, .inl (cI, 4096, .inl (zf rl))), (t, .inl (cB, 16384, .inl ft)), (ia, .inl (cB, 16384, .inl f)), (x9, .inr (7, []))]) (e47 : (¬ (nI (8 * n)) ≤ (nI cd)) → ((nI pl) + (nI b)) = (nI (pl + b))) (t132_2 : (¬ (nI (8 * n)) ≤ (nI cd)) → ((nI (8 * n)) < (nI (pl + b))) → ∀ x9 : Nat, post (.threw x9) [(a, .inr (2, [.ref na, .ref sa, .ref la, .ref ia, .int (nI made), .int (nI ls), .int (nI ll)])), (na, .inr (0, [.int (nI m), .int (nI b), .int (nI x), .int (zb fr)])), (sa, .inl (cI, 4096, .inl (zf rs))), (la, .inl (cI, 4096, .inl (zf rl))), (t, .inl (cB, 16384, .inl ft)), (ia, .inl (cB, 16384, .inl f)), (x9, .inr (7, []))]) (e78 : (¬ (nI (8 * n)) ≤ (nI cd)) → (¬ (nI (8 * n)) < (nI (pl + b))) → ((nI pl) + (nI b)) = (nI (pl + b))) (t123 : (¬ (nI (8 * n)) ≤ (nI cd)) → (¬ (nI (8 * n)) < (nI (pl + b))) → (¬ (nI (zcode ft n pl b)) = (nI (2 ^ m + 1))) → (¬ (nI (zcode ft n pl b)) = (nI (2 ^ m))) → (zn_x x fr ≤ (zcode ft n pl b)) → ∀ x9 : Nat, post (.threw x9) [(a, .inr (2, [.ref na, .ref sa, .ref la, .ref ia, .int (nI made), .int (nI ls), .int (nI ll)])), (na, .inr (0, [.int (nI m), .int (nI b), .int (nI x), .int (zb fr)])), (sa, .inl (cI, 4096, .inl (zf (zd_rs rs x ls fr)))), (la, .inl (cI, 4096, .inl (zf (zd_rl rl x ll fr)))), (t, .inl (cB, 16384, .inl ft)), (ia, .inl (cB, 16384, .inl f)), (x9, .inr (7, []))]) (t123_2 : (¬ (nI (8 * n)) ≤ (nI cd)) → (¬ (nI (8 * n)) < (nI (pl + b))) → (¬ (nI (zcode ft n pl b)) = (nI (2 ^ m + 1))) → (¬ (nI (zcode ft n pl b)) = (nI (2 ^ m))) → ((zcode ft n pl b) < zn_x x fr ∧ 16384 - made < (zd_len m (zcode ft n pl b) (zd_rl rl x ll fr))) → ∀ x9 : Nat, post (.threw x9) [(a, .inr (2, [.ref na, .ref sa, .ref la, .ref ia, .int (nI made), .int (nI ls), .int (nI ll)])), (na, .inr (0, [.int (nI m), .int (nI b), .int (nI x), .int (zb fr)])), (sa, .inl (cI, 4096, .inl (zf (zd_rs rs x ls fr)))), (la, .inl (cI, 4096, .inl (zf (zd_rl rl x ll fr)))), (t, .inl (cB, 16384, .inl ft)), (ia, .inl (cB, 16384, .inl f)), (x9, .inr (8, []))]) (e126 : (¬ (nI (8 * n)) ≤ (nI cd)) → (¬ (nI (8 * n)) < (nI (pl + b))) → (¬ (nI (zcode ft n pl b)) = (nI (2 ^ m + 1))) → (¬ (nI (zcode ft n pl b)) = (nI (2 ^ m))) → ((zcode ft n pl b) < zn_x x fr ∧ (zd_len m (zcode ft n pl b) (zd_rl rl x ll fr)) ≤ 16384 - made) → (nI cd) + (1 : Int32) = (nI (cd + 1))) (k31 : (¬ (nI (8 * n)) ≤ (nI cd)) → (¬ (nI (8 * n)) < (nI (pl + b))) → (¬ (nI (zcode ft n pl b)) = (nI (2 ^ m + 1))) → (¬ (nI (zcode ft n pl b)) = (nI (2 ^ m))) → ((zcode ft n pl b) < zn_x x fr ∧ (zd_len m (zcode ft n pl b) (zd_rl rl x ll fr)) ≤ 16384 - made) → zx_At p l e (zr 9 1 6) s mi args below meth co (zx_Q below s D zcl w0 kr nr (zr 9 1 6) post) D zcl (va_A w0 s.heap.size) 9 [(0, .ref a), (1, .ref t), (2, .int (nI n)), (3, .int (nI m)), (4, .ref ia), (5, .int (nI (8 * n))), (6, .int (nI (pl + b))), (7, .int (nI (cd + 1)))] [(a, .inr (2, [.ref na, .ref sa, .ref la, .ref ia, .int (nI (made + (zd_len m (zcode ft n pl b) (zd_rl rl x ll fr)))), .int (nI made), .int (nI (zd_len m (zcode ft n pl b) (zd_rl rl x ll fr)))])), (na, .inr (0, [.int (nI m), .int (nI (zn_b b x fr)), .int (nI (zn_x x fr)), .int 0])), (sa, .inl (cI, 4096, .inl (zf (zd_rs rs x ls fr)))), (la, .inl (cI, 4096, .inl (zf (zd_rl rl x ll fr)))), (t, .inl (cB, 16384, .inl ft)), (ia, .inl (cB, 16384, .inl (zd_out m (zcode ft n pl b) f made (zd_rs rs x ls fr) (zd_rl rl x ll fr))))] 0 0 31 []) (e126_2 : (¬ (nI (8 * n)) ≤ (nI cd)) → (¬ (nI (8 * n)) < (nI (pl + b))) → (¬ (nI (zcode ft n pl b)) = (nI (2 ^ m + 1))) → ((nI (zcode ft n pl b)) = (nI (2 ^ m))) → (nI cd) + (1 : Int32) = (nI (cd + 1))) (k31_2 : (¬ (nI (8 * n)) ≤ (nI cd)) → (¬ (nI (8 * n)) < (nI (pl + b))) → (¬ (nI (zcode ft n pl b)) = (nI (2 ^ m + 1))) → ((nI (zcode ft n pl b)) = (nI (2 ^ m))) → zx_At p l e (zr 9 1 6) s mi args below meth co (zx_Q below s D zcl w0 kr nr (zr 9 1 6) post) D zcl (va_A w0 s.heap.size) 9 [(0, .ref a), (1, .ref t), (2, .int (nI n)), (3, .int (nI m)), (4, .ref ia), (5, .int (nI (8 * n))), (6, .int (nI (pl + b))), (7, .int (nI (cd + 1)))] [(a, .inr (2, [.ref na, .ref sa, .ref la, .ref ia, .int (nI made), .int (nI ls), .int (nI ll)])), (na, .inr (0, [.int (nI m), .int (nI (m + 1)), .int (nI (2 ^ m + 2)), .int 1])), (sa, .inl (cI, 4096, .inl (zf rs))), (la, .inl (cI, 4096, .inl (zf rl))), (t, .inl (cB, 16384, .inl ft)), (ia, .inl (cB, 16384, .inl f))] 0 0 31 []) (r97 : (¬ (nI (8 * n)) ≤ (nI cd)) → (¬ (nI (8 * n)) < (nI (pl + b))) → ((nI (zcode ft n pl b)) = (nI (2 ^ m + 1))) → post (.returned (some (.int (nI made)))) [(a, .inr (2, [.ref na, .ref sa, .ref la, .ref ia, .int (nI made), .int (nI ls), .int (nI ll)])), (na, .inr (0, [.int (nI m), .int (nI b), .int (nI x), .int (zb fr)])), (sa, .inl (cI, 4096, .inl (zf rs))), (la, .inl (cI, 4096, .inl (zf rl))), (t, .inl (cB, 16384, .inl ft)), (ia, .inl (cB, 16384, .inl f))]) : zx_At p l e (zr 9 1 6) s mi args below meth co (zx_Q below s D zcl w0 kr nr (zr 9 1 6) post) D zcl (va_A w0 s.heap.size) 9 [(0, .ref a), (1, .ref t), (2, .int (nI n)), (3, .int (nI m)), (4, .ref ia), (5, .int (nI (8 * n))), (6, .int (nI pl)), (7, .int (nI cd))] [(a, .inr (2, [.ref na, .ref sa, .ref la, .ref ia, .int (nI made), .int (nI ls), .int (nI ll)])), (na, .inr (0, [.int (nI m), .int (nI b), .int (nI x), .int (zb fr)])), (sa, .inl (cI, 4096, .inl (zf rs))), (la, .inl (cI, 4096, .inl (zf rl))), (t, .inl (cB, 16384, .inl ft)), (ia, .inl (cB, 16384, .inl f))] 0 0 31 [] := by
  refine zx_iload (pc := 31) C d_UN_read_31 7 rfl ?_
  refine zx_iload (pc := 33) C d_UN_read_33 5 rfl ?_
  refine zx_icmp_ge (pc := 35) C 132 d_UN_read_35 (by decide) (fun c35 => ?_) (fun c35 => ?_)
  · exact zx_throwS (pc := 132) (names := zex) (ci := 7) C hl9 (by decide +kernel) zex_fit zw_310 zw_13 zw_342 zh_UN_67 rfl hlk9 (zx_noTab ht9 _) d_UN_read_132 d_UN_read_135 d_UN_read_136 d_UN_read_138 d_UN_read_141 (Nat.le_of_ble_eq_true rfl) (Nat.le_of_ble_eq_true rfl) (Nat.le_of_ble_eq_true rfl) (Nat.le_of_ble_eq_true rfl) (t132 c35)
  · refine zx_iload (pc := 38) C d_UN_read_38 6 rfl ?_
    refine zx_aload_n (pc := 40) C d_UN_read_40 rfl 0 rfl ?_
    refine zx_get (pc := 41) (ci := 2) (Cn := R_UN) (T := T_UN) (N := 7) (v := .ref na) C zu_UN 0 rfl rfl 0 (by decide) zw_63 rfl rfl d_UN_read_41 ?_
    refine zx_getN (pc := 44) (ci := 0) (Cn := R_NU) (T := T_NU) (N := 4) (v := .int (nI b)) C zu_NU 1 rfl rfl 1 (by decide) zw_46 rfl rfl d_UN_read_44 ?_
    refine zx_iadd (pc := 47) C d_UN_read_47 ?_
    refine zx_seti (nI (pl + b)) (e47 c35) ?_
    refine zx_iload (pc := 48) C d_UN_read_48 5 rfl ?_
    refine zx_icmp_gt (pc := 50) C 132 d_UN_read_50 (by decide) (fun c50 => ?_) (fun c50 => ?_)
    · exact zx_throwS (pc := 132) (names := zex) (ci := 7) C hl9 (by decide +kernel) zex_fit zw_310 zw_13 zw_342 zh_UN_67 rfl hlk9 (zx_noTab ht9 _) d_UN_read_132 d_UN_read_135 d_UN_read_136 d_UN_read_138 d_UN_read_141 (Nat.le_of_ble_eq_true rfl) (Nat.le_of_ble_eq_true rfl) (Nat.le_of_ble_eq_true rfl) (Nat.le_of_ble_eq_true rfl) (t132_2 c35 c50)
    · refine zx_aload_n (pc := 53) C d_UN_read_53 rfl 1 rfl ?_
      refine zx_iload_n (pc := 54) C d_UN_read_54 rfl 2 rfl ?_
      refine zx_iload (pc := 55) C d_UN_read_55 6 rfl ?_
      refine zx_aload_n (pc := 57) C d_UN_read_57 rfl 0 rfl ?_
      refine zx_get (pc := 58) (ci := 2) (Cn := R_UN) (T := T_UN) (N := 7) (v := .ref na) C zu_UN 0 rfl rfl 0 (by decide) zw_63 rfl rfl d_UN_read_58 ?_
      refine zx_getN (pc := 61) (ci := 0) (Cn := R_NU) (T := T_NU) (N := 4) (v := .int (nI b)) C zu_NU 1 rfl rfl 1 (by decide) zw_46 rfl rfl d_UN_read_61 ?_
      refine zx_callS (pc := 64) (ix := 46) (wr := [(a, .inr (2, [.ref na, .ref sa, .ref la, .ref ia, .int (nI made), .int (nI ls), .int (nI ll)])), (na, .inr (0, [.int (nI m), .int (nI b), .int (nI x), .int (zb fr)])), (sa, .inl (cI, 4096, .inl (zf rs))), (la, .inl (cI, 4096, .inl (zf rl))), (ia, .inl (cB, 16384, .inl f))]) (st := []) C (zx_cw.of (C.w zw_288)) (by decide +kernel) ⟨by decide +kernel, by decide +kernel⟩ zw_287 zw_2 zw_286 rfl (k_UN_codeAt l D cB cI cL (zr 0 0 0) t n pl b ft hn hb (hco c50)) rfl [4] [0, 1, 2, 3, 5] rfl rfl (by decide) (by decide) (by decide) (Nat.le_of_ble_eq_true rfl) (Nat.le_of_ble_eq_true rfl) (Nat.le_of_ble_eq_true rfl) (Nat.le_of_ble_eq_true rfl) d_UN_read_64 (fun o w1 hp => ?_)
      obtain ⟨rfl, rfl⟩ := hp
      refine zx_ri (k2 := 0) (n2 := 0) rfl rfl ?_
      refine zx_ws (ws' := [(a, .inr (2, [.ref na, .ref sa, .ref la, .ref ia, .int (nI made), .int (nI ls), .int (nI ll)])), (na, .inr (0, [.int (nI m), .int (nI b), .int (nI x), .int (zb fr)])), (sa, .inl (cI, 4096, .inl (zf rs))), (la, .inl (cI, 4096, .inl (zf rl))), (t, .inl (cB, 16384, .inl ft)), (ia, .inl (cB, 16384, .inl f))]) [0, 1, 2, 3, 5, 4] (by decide) rfl ?_
      refine zx_istore (pc := 67) C d_UN_read_67 (by decide) (lv' := [(8, .int (nI (zcode ft n pl b))), (0, .ref a), (1, .ref t), (2, .int (nI n)), (3, .int (nI m)), (4, .ref ia), (5, .int (nI (8 * n))), (6, .int (nI pl)), (7, .int (nI cd))]) rfl ?_
      refine zx_iload (pc := 69) C d_UN_read_69 7 rfl ?_
      refine zx_aload_n (pc := 71) C d_UN_read_71 rfl 1 rfl ?_
      refine zx_get (pc := 72) (ci := 2) (Cn := R_UN) (T := T_UN) (N := 7) (v := .ref na) C zu_UN 0 rfl rfl 0 (by decide) zw_63 rfl rfl d_UN_read_72 ?_
      refine zx_getN (pc := 75) (ci := 0) (Cn := R_NU) (T := T_NU) (N := 4) (v := .int (nI b)) C zu_NU 1 rfl rfl 1 (by decide) zw_46 rfl rfl d_UN_read_75 ?_
      refine zx_iadd (pc := 78) C d_UN_read_78 ?_
      refine zx_seti (nI (pl + b)) (e78 c35 c50) ?_
      refine zx_istore (pc := 79) C d_UN_read_79 (by decide) (lv' := [(6, .int (nI (pl + b))), (8, .int (nI (zcode ft n pl b))), (0, .ref a), (1, .ref t), (2, .int (nI n)), (3, .int (nI m)), (4, .ref ia), (5, .int (nI (8 * n))), (7, .int (nI cd))]) rfl ?_
      refine zx_iload (pc := 81) C d_UN_read_81 1 rfl ?_
      refine zx_aload_n (pc := 83) C d_UN_read_83 rfl 2 rfl ?_
      refine zx_get (pc := 84) (ci := 2) (Cn := R_UN) (T := T_UN) (N := 7) (v := .ref na) C zu_UN 0 rfl rfl 0 (by decide) zw_63 rfl rfl d_UN_read_84 ?_
      refine zx_callV (pc := 87) (ix := 50) (As := []) (b := na) (q0 := 1) (wr := [(a, .inr (2, [.ref na, .ref sa, .ref la, .ref ia, .int (nI made), .int (nI ls), .int (nI ll)])), (sa, .inl (cI, 4096, .inl (zf rs))), (la, .inl (cI, 4096, .inl (zf rl))), (t, .inl (cB, 16384, .inl ft)), (ia, .inl (cB, 16384, .inl f))]) (st := [.int (nI (zcode ft n pl b))]) C (zx_cw.of (C.w zw_292)) (by decide +kernel) ⟨by decide +kernel, by decide +kernel⟩ zw_290 zw_291 zw_289 rfl rfl rfl rfl rfl (k_NU_ending l D cB cI cL (zr 0 0 0) na m (nI b) (nI x) (zb fr) (by omega)) rfl [1] [0, 2, 3, 4, 5] rfl rfl (by decide) (by decide) (by decide) (Nat.le_of_ble_eq_true rfl) (Nat.le_of_ble_eq_true rfl) (Nat.le_of_ble_eq_true rfl) (Nat.le_of_ble_eq_true rfl) d_UN_read_87 (fun o w1 hp => ?_)
      obtain ⟨rfl, rfl⟩ := hp
      refine zx_ri (k2 := 0) (n2 := 0) rfl rfl ?_
      refine zx_ws (ws' := [(a, .inr (2, [.ref na, .ref sa, .ref la, .ref ia, .int (nI made), .int (nI ls), .int (nI ll)])), (na, .inr (0, [.int (nI m), .int (nI b), .int (nI x), .int (zb fr)])), (sa, .inl (cI, 4096, .inl (zf rs))), (la, .inl (cI, 4096, .inl (zf rl))), (t, .inl (cB, 16384, .inl ft)), (ia, .inl (cB, 16384, .inl f))]) [0, 5, 1, 2, 3, 4] (by decide) rfl ?_
      refine zx_icmp_ne (pc := 90) C 98 d_UN_read_90 (by decide) (fun c90 => ?_) (fun c90 => ?_)
      · refine zx_iload (pc := 98) C d_UN_read_98 1 rfl ?_
        refine zx_aload_n (pc := 100) C d_UN_read_100 rfl 2 rfl ?_
        refine zx_get (pc := 101) (ci := 2) (Cn := R_UN) (T := T_UN) (N := 7) (v := .ref na) C zu_UN 0 rfl rfl 0 (by decide) zw_63 rfl rfl d_UN_read_101 ?_
        refine zx_callV (pc := 104) (ix := 54) (As := []) (b := na) (q0 := 1) (wr := [(a, .inr (2, [.ref na, .ref sa, .ref la, .ref ia, .int (nI made), .int (nI ls), .int (nI ll)])), (sa, .inl (cI, 4096, .inl (zf rs))), (la, .inl (cI, 4096, .inl (zf rl))), (t, .inl (cB, 16384, .inl ft)), (ia, .inl (cB, 16384, .inl f))]) (st := [.int (nI (zcode ft n pl b))]) C (zx_cw.of (C.w zw_296)) (by decide +kernel) ⟨by decide +kernel, by decide +kernel⟩ zw_294 zw_295 zw_293 rfl rfl rfl rfl rfl (k_NU_beginning l D cB cI cL (zr 0 0 0) na m (nI b) (nI x) (zb fr) (by omega)) rfl [1] [0, 2, 3, 4, 5] rfl rfl (by decide) (by decide) (by decide) (Nat.le_of_ble_eq_true rfl) (Nat.le_of_ble_eq_true rfl) (Nat.le_of_ble_eq_true rfl) (Nat.le_of_ble_eq_true rfl) d_UN_read_104 (fun o w1 hp => ?_)
        obtain ⟨rfl, rfl⟩ := hp
        refine zx_ri (k2 := 0) (n2 := 0) rfl rfl ?_
        refine zx_ws (ws' := [(a, .inr (2, [.ref na, .ref sa, .ref la, .ref ia, .int (nI made), .int (nI ls), .int (nI ll)])), (na, .inr (0, [.int (nI m), .int (nI b), .int (nI x), .int (zb fr)])), (sa, .inl (cI, 4096, .inl (zf rs))), (la, .inl (cI, 4096, .inl (zf rl))), (t, .inl (cB, 16384, .inl ft)), (ia, .inl (cB, 16384, .inl f))]) [0, 5, 1, 2, 3, 4] (by decide) rfl ?_
        refine zx_icmp_ne (pc := 107) C 120 d_UN_read_107 (by decide) (fun c107 => ?_) (fun c107 => ?_)
        · refine zx_aload_n (pc := 120) C d_UN_read_120 rfl 2 rfl ?_
          refine zx_iload (pc := 121) C d_UN_read_121 1 rfl ?_
          refine zx_callV (pc := 123) (ix := 60) (As := [.int (nI (zcode ft n pl b))]) (b := a) (q0 := 0) (wr := [(t, .inl (cB, 16384, .inl ft))]) (st := []) C (zx_cw.of (C.w zw_301)) (by decide +kernel) ⟨by decide +kernel, by decide +kernel⟩ zw_300 zs_UN_takeCode zw_298 rfl rfl rfl rfl rfl (k_UN_takeCode l D cB cI cL hl9 a na sa la ia m b x ls ll made (zcode ft n pl b) fr rs rl f hm (by omega) hx hc hmd hby (hrow c90 c107)) rfl [0, 1, 2, 3, 5] [4] rfl rfl (by decide) (by decide) (by decide) (Nat.le_of_ble_eq_true rfl) (Nat.le_of_ble_eq_true rfl) (Nat.le_of_ble_eq_true rfl) (Nat.le_of_ble_eq_true rfl) d_UN_read_123 (fun o w1 hp => ?_)
          rcases hp with ⟨hc123, x9, rfl, rfl⟩ | ⟨hc123, x9, rfl, rfl⟩ | ⟨hc123, rfl, rfl⟩
          · exact zx_rt (k2 := 1) (n2 := 6) rfl rfl (zx_wsT (ws' := [(a, .inr (2, [.ref na, .ref sa, .ref la, .ref ia, .int (nI made), .int (nI ls), .int (nI ll)])), (na, .inr (0, [.int (nI m), .int (nI b), .int (nI x), .int (zb fr)])), (sa, .inl (cI, 4096, .inl (zf (zd_rs rs x ls fr)))), (la, .inl (cI, 4096, .inl (zf (zd_rl rl x ll fr)))), (t, .inl (cB, 16384, .inl ft)), (ia, .inl (cB, 16384, .inl f)), (x9, .inr (7, []))]) [1, 2, 3, 4, 0, 5, 6] (by decide) rfl (zx_leave hlk9 (zx_noTab ht9 _) (Nat.le_of_ble_eq_true rfl) (Nat.le_of_ble_eq_true rfl) (t123 c35 c50 c90 c107 hc123 x9)))
          · exact zx_rt (k2 := 1) (n2 := 6) rfl rfl (zx_wsT (ws' := [(a, .inr (2, [.ref na, .ref sa, .ref la, .ref ia, .int (nI made), .int (nI ls), .int (nI ll)])), (na, .inr (0, [.int (nI m), .int (nI b), .int (nI x), .int (zb fr)])), (sa, .inl (cI, 4096, .inl (zf (zd_rs rs x ls fr)))), (la, .inl (cI, 4096, .inl (zf (zd_rl rl x ll fr)))), (t, .inl (cB, 16384, .inl ft)), (ia, .inl (cB, 16384, .inl f)), (x9, .inr (8, []))]) [1, 2, 3, 4, 0, 5, 6] (by decide) rfl (zx_leave hlk9 (zx_noTab ht9 _) (Nat.le_of_ble_eq_true rfl) (Nat.le_of_ble_eq_true rfl) (t123_2 c35 c50 c90 c107 hc123 x9)))
          · refine zx_rv (k2 := 0) (n2 := 0) rfl rfl ?_
            refine zx_ws (ws' := [(a, .inr (2, [.ref na, .ref sa, .ref la, .ref ia, .int (nI (made + (zd_len m (zcode ft n pl b) (zd_rl rl x ll fr)))), .int (nI made), .int (nI (zd_len m (zcode ft n pl b) (zd_rl rl x ll fr)))])), (na, .inr (0, [.int (nI m), .int (nI (zn_b b x fr)), .int (nI (zn_x x fr)), .int 0])), (sa, .inl (cI, 4096, .inl (zf (zd_rs rs x ls fr)))), (la, .inl (cI, 4096, .inl (zf (zd_rl rl x ll fr)))), (t, .inl (cB, 16384, .inl ft)), (ia, .inl (cB, 16384, .inl (zd_out m (zcode ft n pl b) f made (zd_rs rs x ls fr) (zd_rl rl x ll fr))))]) [1, 2, 3, 4, 0, 5] (by decide) rfl ?_
            refine zx_iinc (pc := 126) C d_UN_read_126 8 rfl (v := (nI (cd + 1))) (e126 c35 c50 c90 c107 hc123) (by decide) (lv' := [(7, .int (nI (cd + 1))), (6, .int (nI (pl + b))), (8, .int (nI (zcode ft n pl b))), (0, .ref a), (1, .ref t), (2, .int (nI n)), (3, .int (nI m)), (4, .ref ia), (5, .int (nI (8 * n)))]) rfl ?_
            refine zx_goto (pc := 129) C 31 d_UN_read_129 (by decide) ?_
            refine zx_lv (lv' := [(0, .ref a), (1, .ref t), (2, .int (nI n)), (3, .int (nI m)), (4, .ref ia), (5, .int (nI (8 * n))), (6, .int (nI (pl + b))), (7, .int (nI (cd + 1)))]) [3, 4, 5, 6, 7, 8, 1, 0] rfl ?_
            exact k31 c35 c50 c90 c107 hc123
        · refine zx_aload_n (pc := 110) C d_UN_read_110 rfl 2 rfl ?_
          refine zx_get (pc := 111) (ci := 2) (Cn := R_UN) (T := T_UN) (N := 7) (v := .ref na) C zu_UN 0 rfl rfl 0 (by decide) zw_63 rfl rfl d_UN_read_111 ?_
          refine zx_callV (pc := 114) (ix := 57) (As := []) (b := na) (q0 := 1) (wr := [(a, .inr (2, [.ref na, .ref sa, .ref la, .ref ia, .int (nI made), .int (nI ls), .int (nI ll)])), (sa, .inl (cI, 4096, .inl (zf rs))), (la, .inl (cI, 4096, .inl (zf rl))), (t, .inl (cB, 16384, .inl ft)), (ia, .inl (cB, 16384, .inl f))]) (st := []) C (zx_cw.of (C.w zw_285)) (by decide +kernel) ⟨by decide +kernel, by decide +kernel⟩ zw_283 zw_284 zw_297 rfl rfl rfl rfl rfl (k_NU_beginAnew l D cB cI cL (zr 0 0 0) na m (nI b) (nI x) (zb fr) (by omega)) rfl [1] [0, 2, 3, 4, 5] rfl rfl (by decide) (by decide) (by decide) (Nat.le_of_ble_eq_true rfl) (Nat.le_of_ble_eq_true rfl) (Nat.le_of_ble_eq_true rfl) (Nat.le_of_ble_eq_true rfl) d_UN_read_114 (fun o w1 hp => ?_)
          obtain ⟨rfl, rfl⟩ := hp
          refine zx_rv (k2 := 0) (n2 := 0) rfl rfl ?_
          refine zx_ws (ws' := [(a, .inr (2, [.ref na, .ref sa, .ref la, .ref ia, .int (nI made), .int (nI ls), .int (nI ll)])), (na, .inr (0, [.int (nI m), .int (nI (m + 1)), .int (nI (2 ^ m + 2)), .int 1])), (sa, .inl (cI, 4096, .inl (zf rs))), (la, .inl (cI, 4096, .inl (zf rl))), (t, .inl (cB, 16384, .inl ft)), (ia, .inl (cB, 16384, .inl f))]) [0, 5, 1, 2, 3, 4] (by decide) rfl ?_
          refine zx_goto (pc := 117) C 126 d_UN_read_117 (by decide) ?_
          refine zx_iinc (pc := 126) C d_UN_read_126 8 rfl (v := (nI (cd + 1))) (e126_2 c35 c50 c90 c107) (by decide) (lv' := [(7, .int (nI (cd + 1))), (6, .int (nI (pl + b))), (8, .int (nI (zcode ft n pl b))), (0, .ref a), (1, .ref t), (2, .int (nI n)), (3, .int (nI m)), (4, .ref ia), (5, .int (nI (8 * n)))]) rfl ?_
          refine zx_goto (pc := 129) C 31 d_UN_read_129 (by decide) ?_
          refine zx_lv (lv' := [(0, .ref a), (1, .ref t), (2, .int (nI n)), (3, .int (nI m)), (4, .ref ia), (5, .int (nI (8 * n))), (6, .int (nI (pl + b))), (7, .int (nI (cd + 1)))]) [3, 4, 5, 6, 7, 8, 1, 0] rfl ?_
          exact k31_2 c35 c50 c90 c107
      · refine zx_aload_n (pc := 93) C d_UN_read_93 rfl 2 rfl ?_
        refine zx_get (pc := 94) (ci := 2) (Cn := R_UN) (T := T_UN) (N := 7) (v := .int (nI made)) C zu_UN 0 rfl rfl 4 (by decide) zw_67 rfl rfl d_UN_read_94 ?_
        exact zx_iret (pc := 97) C hr9 hlk9 (Nat.zero_le _) (Nat.zero_le _) d_UN_read_97 (r97 c35 c50 c90)

/-- what read gives, by the reader's function r -/
def zp_read (a na sa la t ia : Nat) (ft : Nat → Int32) (r : Nat × Nat × (Nat → Int32)) (cB cI : ClassId) : Outcome → va_W → Prop := fun o w =>
  (∃ (m1 b1 x1 f1 k1 k2 k3 : Int32) (rs rl : Nat → Nat) (f : Nat → Int32), ((∀ j, vp_nar .byte (f j) = f j) ∧ r.1 = 0 ∧ f = r.2.2) ∧ o = .returned (some (.int (nI r.2.1))) ∧ w = [(a, .inr (2, [.ref na, .ref sa, .ref la, .ref ia, .int k1, .int k2, .int k3])), (na, .inr (0, [.int m1, .int b1, .int x1, .int f1])), (sa, .inl (cI, 4096, .inl (zf rs))), (la, .inl (cI, 4096, .inl (zf rl))), (t, .inl (cB, 16384, .inl ft)), (ia, .inl (cB, 16384, .inl f))]) ∨
  (∃ (m1 b1 x1 f1 k1 k2 k3 : Int32) (rs rl : Nat → Nat) (f : Nat → Int32), ((∀ j, vp_nar .byte (f j) = f j) ∧ r.1 = 2) ∧ ∃ x0 : Nat, o = .threw x0 ∧ w = [(a, .inr (2, [.ref na, .ref sa, .ref la, .ref ia, .int k1, .int k2, .int k3])), (na, .inr (0, [.int m1, .int b1, .int x1, .int f1])), (sa, .inl (cI, 4096, .inl (zf rs))), (la, .inl (cI, 4096, .inl (zf rl))), (t, .inl (cB, 16384, .inl ft)), (ia, .inl (cB, 16384, .inl f)), (x0, .inr (7, []))]) ∨
  (∃ (m1 b1 x1 f1 k1 k2 k3 : Int32) (rs rl : Nat → Nat) (f : Nat → Int32), ((∀ j, vp_nar .byte (f j) = f j) ∧ r.1 = 3) ∧ ∃ x0 : Nat, o = .threw x0 ∧ w = [(a, .inr (2, [.ref na, .ref sa, .ref la, .ref ia, .int k1, .int k2, .int k3])), (na, .inr (0, [.int m1, .int b1, .int x1, .int f1])), (sa, .inl (cI, 4096, .inl (zf rs))), (la, .inl (cI, 4096, .inl (zf rl))), (t, .inl (cB, 16384, .inl ft)), (ia, .inl (cB, 16384, .inl f)), (x0, .inr (8, []))])
set_option maxHeartbeats 2000000 in
theorem k_UN_read (l : Launch) (D : va_G) (cB cI cL : ClassId) (hl : l.stackTraces = false) (a na sa la i0 t ia m n ls ll : Nat) (rs0 rl0 : Nat → Nat) (ft f0 : Nat → Int32) (m9 b9 x9 f9 made9 : Int32) (hm : 2 ≤ m ∧ m ≤ 8) (hn : n ≤ 16384) (hby0 : ∀ j, vp_nar .byte (f0 j) = f0 j) : zx_K l zB D zcl (zt cB cI cL) y_UN_read b_UN_read 9 (some .int) [] 0 0 (zr 9 1 6) [.ref a, .ref t, .int (nI n), .int (nI m), .ref ia] [(a, .inr (2, [.ref na, .ref sa, .ref la, .ref i0, .int made9, .int (nI ls), .int (nI ll)])), (na, .inr (0, [.int m9, .int b9, .int x9, .int f9])), (sa, .inl (cI, 4096, .inl (zf rs0))), (la, .inl (cI, 4096, .inl (zf rl0))), (t, .inl (cB, 16384, .inl ft)), (ia, .inl (cB, 16384, .inl f0))] (zp_read a na sa la t ia ft (zd_run m (zcode ft n) (8 * n) (8 * n) 0 (m + 1) (2 ^ m + 2) true ls ll rs0 rl0 f0 0) cB cI) := by
  refine zx_K.mk (Nat.le_of_ble_eq_true rfl) (fun p e s mm below meth c9 C hr hlk ht hnm => ?_)
  have hp8 := zp_pow8 hm.2
  have loop : ∀ (d cd pl b x : Nat) (fr : Bool) (ls1 ll1 : Nat) (rs rl : Nat → Nat) (f : Nat → Int32) (made : Nat), cd + d = 8 * n → pl ≤ 8 * n → zd_inv m b x fr ls1 ll1 rs rl f made → zd_run m (zcode ft n) (8 * n) d pl b x fr ls1 ll1 rs rl f made = (zd_run m (zcode ft n) (8 * n) (8 * n) 0 (m + 1) (2 ^ m + 2) true ls ll rs0 rl0 f0 0) → zx_At p l e (zr 9 1 6) s mm (([.ref a, .ref t, .int (nI n), .int (nI m), .ref ia] : List Value)).toArray below meth c9 (zx_Q below s D zcl [(a, .inr (2, [.ref na, .ref sa, .ref la, .ref i0, .int made9, .int (nI ls), .int (nI ll)])), (na, .inr (0, [.int m9, .int b9, .int x9, .int f9])), (sa, .inl (cI, 4096, .inl (zf rs0))), (la, .inl (cI, 4096, .inl (zf rl0))), (t, .inl (cB, 16384, .inl ft)), (ia, .inl (cB, 16384, .inl f0))] 0 0 (zr 9 1 6) (zp_read a na sa la t ia ft (zd_run m (zcode ft n) (8 * n) (8 * n) 0 (m + 1) (2 ^ m + 2) true ls ll rs0 rl0 f0 0) cB cI)) D zcl (va_A [(a, .inr (2, [.ref na, .ref sa, .ref la, .ref i0, .int made9, .int (nI ls), .int (nI ll)])), (na, .inr (0, [.int m9, .int b9, .int x9, .int f9])), (sa, .inl (cI, 4096, .inl (zf rs0))), (la, .inl (cI, 4096, .inl (zf rl0))), (t, .inl (cB, 16384, .inl ft)), (ia, .inl (cB, 16384, .inl f0))] s.heap.size) 9 [(0, .ref a), (1, .ref t), (2, .int (nI n)), (3, .int (nI m)), (4, .ref ia), (5, .int (nI (8 * n))), (6, .int (nI pl)), (7, .int (nI cd))] [(a, .inr (2, [.ref na, .ref sa, .ref la, .ref ia, .int (nI made), .int (nI ls1), .int (nI ll1)])), (na, .inr (0, [.int (nI m), .int (nI b), .int (nI x), .int (zb fr)])), (sa, .inl (cI, 4096, .inl (zf rs))), (la, .inl (cI, 4096, .inl (zf rl))), (t, .inl (cB, 16384, .inl ft)), (ia, .inl (cB, 16384, .inl f))] 0 0 31 [] := by
    intro d
    induction d with
    | zero =>
      intro cd pl b x fr ls1 ll1 rs rl f made hd hpl hi hrun
      have key : nI (8 * n) ≤ nI cd := by rw [show cd = 8 * n by omega]; exact Int32.le_refl _
      have hi2 := hi
      obtain ⟨i1, i2, i3, i4, i5, i6⟩ := hi2
      have hp12 := zp_pow12 i1.2
      have hcl : zcode ft n pl b < 2 ^ b := Nat.mod_lt _ (Nat.pow_pos (by decide))
      have key9 : nI (8 * n) < nI (pl + b) ↔ 8 * n < pl + b := nI_ltI (by omega) (by omega)
      have kE : nI (zcode ft n pl b) = nI (2 ^ m + 1) ↔ zcode ft n pl b = 2 ^ m + 1 := nI_eq (by omega) (by omega)
      have kB : nI (zcode ft n pl b) = nI (2 ^ m) ↔ zcode ft n pl b = 2 ^ m := nI_eq (by omega) (by omega)
      rw [zd_run] at hrun
      exact sg_UN_read31 C hn hm.2 i1.2 i2.2 i3 i4 (by omega) (fun z => by have := mt key9.mpr z; omega) (fun z1 z2 z3 z4 => zd_row hi z3 (by have := mt kE.mpr z1; have := mt kB.mpr z2; omega)) hr hlk hl ht (fun _ x0 => Or.inr (Or.inl ⟨_, _, _, _, _, _, _, rs, rl, f, ⟨i4, by rw [← hrun]⟩, x0, rfl, rfl⟩)) (fun z => absurd key z) (fun z => absurd key z) (fun z => absurd key z) (fun z => absurd key z) (fun z => absurd key z) (fun z => absurd key z) (fun z => absurd key z) (fun z => absurd key z) (fun z => absurd key z) (fun z => absurd key z)
    | succ d ih =>
      intro cd pl b x fr ls1 ll1 rs rl f made hd hpl hi hrun
      have hi2 := hi
      obtain ⟨i1, i2, i3, i4, i5, i6⟩ := hi2
      have hp12 := zp_pow12 i1.2
      have hcl : zcode ft n pl b < 2 ^ b := Nat.mod_lt _ (Nat.pow_pos (by decide))
      have nk : ¬ nI (8 * n) ≤ nI cd := fun z => absurd ((nI_leI (by omega) (by omega)).mp z) (by omega)
      have key9 : nI (8 * n) < nI (pl + b) ↔ 8 * n < pl + b := nI_ltI (by omega) (by omega)
      have kE : nI (zcode ft n pl b) = nI (2 ^ m + 1) ↔ zcode ft n pl b = 2 ^ m + 1 := nI_eq (by omega) (by omega)
      have kB : nI (zcode ft n pl b) = nI (2 ^ m) ↔ zcode ft n pl b = 2 ^ m := nI_eq (by omega) (by omega)
      rw [zd_run] at hrun
      refine sg_UN_read31 C hn hm.2 i1.2 i2.2 i3 i4 (by omega) (fun z => by have := mt key9.mpr z; omega) (fun z1 z2 z3 z4 => zd_row hi z3 (by have := mt kE.mpr z1; have := mt kB.mpr z2; omega)) hr hlk hl ht (fun z => absurd z nk) (fun _ => nI_add _ _) (fun _ z x0 => ?_) (fun _ _ => nI_add _ _) (fun _ z1 z2 z3 z4 x0 => ?_) (fun _ z1 z2 z3 z4 x0 => ?_) (fun _ _ _ _ _ => nI_1 cd) (fun _ z1 z2 z3 z4 => ?_) (fun _ _ _ _ => nI_1 cd) (fun _ z1 z2 z3 => ?_) (fun _ z1 z2 => ?_)
      · rw [if_neg (by have := key9.mp z; omega)] at hrun
        exact Or.inr (Or.inl ⟨_, _, _, _, _, _, _, rs, rl, f, ⟨i4, by rw [← hrun]⟩, x0, rfl, rfl⟩)
      · have g1 := mt key9.mpr z1
        rw [if_pos (by omega), if_neg (mt kE.mpr z2), if_neg (mt kB.mpr z3), if_pos z4] at hrun
        exact Or.inr (Or.inl ⟨_, _, _, _, _, _, _, _, _, f, ⟨i4, by rw [← hrun]⟩, x0, rfl, rfl⟩)
      · have g1 := mt key9.mpr z1
        rw [if_pos (by omega), if_neg (mt kE.mpr z2), if_neg (mt kB.mpr z3), if_neg (by omega), if_pos z4.2] at hrun
        exact Or.inr (Or.inr ⟨_, _, _, _, _, _, _, _, _, f, ⟨i4, by rw [← hrun]⟩, x0, rfl, rfl⟩)
      · have g1 := mt key9.mpr z1
        rw [if_pos (by omega), if_neg (mt kE.mpr z2), if_neg (mt kB.mpr z3), if_neg (by omega), if_neg (by omega)] at hrun
        exact ih (cd + 1) (pl + b) _ _ false made _ _ _ _ _ (by omega) (by omega) (zd_inv_next hi z4.2) hrun
      · have g1 := mt key9.mpr z1
        rw [if_pos (by omega), if_neg (mt kE.mpr z2), if_pos (kB.mp z3)] at hrun
        exact ih (cd + 1) (pl + b) (m + 1) (2 ^ m + 2) true ls1 ll1 rs rl f made (by omega) (by omega) (zd_inv_new hm i3 i4) hrun
      · have g1 := mt key9.mpr z1
        rw [if_pos (by omega), if_pos (kE.mp z2)] at hrun
        exact Or.inl ⟨_, _, _, _, _, _, _, rs, rl, f, ⟨i4, by rw [← hrun], by rw [← hrun]⟩, by rw [← hrun], rfl⟩
  exact sg_UN_read0 C (by omega) (pk_mul 8 n) (loop (8 * n) 0 0 (m + 1) (2 ^ m + 2) true ls ll rs0 rl0 f0 0 (by omega) (by omega) (zd_inv_new hm (by omega) hby0) rfl)
end
section
set_option maxRecDepth 100000 in
set_option maxHeartbeats 4000000 in
theorem sg_UN_init {p : Program} {l : Launch} {e : Env} {s : State} {mi : MethodId} {args : Array Value} {below : List Frame} {meth : Method} {co : Code} {D : va_G} {cB cI cL : ClassId} {w0 : va_W} {kr nr : Nat} {post : Outcome → va_W → Prop} (C : zx_C p s mi args co b_UN_init 1 R_UN zB D zcl (zt cB cI cL) (va_A w0 s.heap.size)) {a : Nat} (hr9 : meth.sig.returnType = none) (hlk9 : meth.locks = false) (hkr9 : 4 ≤ kr) (hnr9 : 8196 ≤ nr) (hnm9 : meth.name = "<init>") (r55 : ∀ q5 : Nat, ∀ q19 : Nat, ∀ q28 : Nat, ∀ q35 : Nat, post (.returned none) [(a, .inr (2, [.ref q5, .ref q19, .ref q28, .ref q35, .int (0 : Int32), .int (0 : Int32), .int (0 : Int32)])), (q5, .inr (0, [.int (0 : Int32), .int (0 : Int32), .int (0 : Int32), .int (0 : Int32)])), (q19, .inl (cI, 4096, .inl (fun _ => 0))), (q28, .inl (cI, 4096, .inl (fun _ => 0))), (q35, .inl (cB, 0, .inl (fun _ => 0)))]) : zx_At p l e (zr 2 4 8196) s mi args below meth co (zx_Q below s D zcl w0 kr nr (zr 2 4 8196) post) D zcl (va_A w0 s.heap.size) 1 [(0, .ref a)] [(a, .inr (2, [.null, .null, .null, .null, .int (0 : Int32), .int (0 : Int32), .int (0 : Int32)]))] 0 0 0 [] := by
  refine zx_aload_n (pc := 0) C d_UN_init_0 rfl 0 rfl ?_
  refine zx_objInit (pc := 1) C zw_38 zw_31 zw_32 d_UN_init_1 (Nat.le_of_ble_eq_true rfl) (Nat.le_of_ble_eq_true rfl) ?_
  refine zx_aload_n (pc := 4) C d_UN_init_4 rfl 0 rfl ?_
  refine zx_new (pc := 5) (ci := 0) (Cn := R_NU) (T := T_NU) (N := 4) (fs := [.int (0 : Int32), .int (0 : Int32), .int (0 : Int32), .int (0 : Int32)]) C zu_NU ty_NU tyk_NU zw_39 zw_40 zw_3 rfl (zd_NU) (Nat.le_of_ble_eq_true rfl) (Nat.le_of_ble_eq_true rfl) d_UN_init_5 (fun q5 => ?_)
  show zx_At p l e (zr 2 4 8196) s mi args below meth co (zx_Q below s D zcl w0 kr nr (zr 2 4 8196) post) D zcl (va_A w0 s.heap.size) 1 [(0, .ref a)] [(a, .inr (2, [.null, .null, .null, .null, .int (0 : Int32), .int (0 : Int32), .int (0 : Int32)])), (q5, .inr (0, [.int (0 : Int32), .int (0 : Int32), .int (0 : Int32), .int (0 : Int32)]))] 1 4 8 [.ref q5, .ref a]
  refine zx_dup (pc := 8) C d_UN_init_8 rfl ?_
  refine zx_callIN (hs := []) (ret := none) (pc := 9) (ix := 11) (As := []) (b := q5) (wr := [(a, .inr (2, [.null, .null, .null, .null, .int (0 : Int32), .int (0 : Int32), .int (0 : Int32)]))]) (st := [.ref q5, .ref a]) C (by decide +kernel) ⟨by decide +kernel, by decide +kernel⟩ zw_43 rfl zw_42 zw_41 rfl rfl (k_NU_init l D cB cI cL q5 0 0 0 0) rfl [1] [0] rfl rfl (by decide) (by decide) (by decide) (Nat.le_of_ble_eq_true rfl) (Nat.le_of_ble_eq_true rfl) (Nat.le_of_ble_eq_true rfl) (Nat.le_of_ble_eq_true rfl) d_UN_init_9 (fun o w1 hp => ?_)
  obtain ⟨rfl, rfl⟩ := hp
  refine zx_rv (k2 := 1) (n2 := 4) rfl rfl ?_
  refine zx_ws (ws' := [(a, .inr (2, [.null, .null, .null, .null, .int (0 : Int32), .int (0 : Int32), .int (0 : Int32)])), (q5, .inr (0, [.int (0 : Int32), .int (0 : Int32), .int (0 : Int32), .int (0 : Int32)]))]) [0, 1] (by decide) rfl ?_
  refine zx_putF (pc := 12) (ci := 2) (Cn := R_UN) (T := T_UN) (N := 7) (v := .ref q5) (ty := .object "LzwBox$Numbering") (ws' := [(a, .inr (2, [.ref q5, .null, .null, .null, .int (0 : Int32), .int (0 : Int32), .int (0 : Int32)])), (q5, .inr (0, [.int (0 : Int32), .int (0 : Int32), .int (0 : Int32), .int (0 : Int32)]))]) C zu_UN ty_UN tyk_UN nm_UN 0 rfl rfl 0 (by decide) zw_63 rfl rfl hnm9 rfl (by decide +kernel) rfl rfl (Nat.le_of_ble_eq_true rfl) rfl d_UN_init_12 ?_
  refine zx_aload_n (pc := 15) C d_UN_init_15 rfl 0 rfl ?_
  refine zx_sipush (pc := 16) C d_UN_init_16 (v := (4096 : Int32)) (by decide) ?_
  refine zx_newa (pc := 19) (ty := .int) (N := 4096) (a0 := (4096, .inl (fun _ => 0))) C rfl (by simp) zw_85 1 rfl (fun _ => rfl) (by decide) (by decide) (by decide) (Nat.le_of_ble_eq_true rfl) (Nat.le_of_ble_eq_true rfl) d_UN_init_19 (fun q19 => ?_)
  show zx_At p l e (zr 2 4 8196) s mi args below meth co (zx_Q below s D zcl w0 kr nr (zr 2 4 8196) post) D zcl (va_A w0 s.heap.size) 1 [(0, .ref a)] [(a, .inr (2, [.ref q5, .null, .null, .null, .int (0 : Int32), .int (0 : Int32), .int (0 : Int32)])), (q5, .inr (0, [.int (0 : Int32), .int (0 : Int32), .int (0 : Int32), .int (0 : Int32)])), (q19, .inl (cI, 4096, .inl (fun _ => 0)))] 2 4100 21 [.ref q19, .ref a]
  refine zx_putF (pc := 21) (ci := 2) (Cn := R_UN) (T := T_UN) (N := 7) (v := .ref q19) (ty := .array .int) (ws' := [(a, .inr (2, [.ref q5, .ref q19, .null, .null, .int (0 : Int32), .int (0 : Int32), .int (0 : Int32)])), (q5, .inr (0, [.int (0 : Int32), .int (0 : Int32), .int (0 : Int32), .int (0 : Int32)])), (q19, .inl (cI, 4096, .inl (fun _ => 0)))]) C zu_UN ty_UN tyk_UN nm_UN 0 rfl rfl 1 (by decide) zw_64 rfl rfl hnm9 rfl (by decide +kernel) rfl rfl (Nat.le_of_ble_eq_true rfl) rfl d_UN_init_21 ?_
  refine zx_aload_n (pc := 24) C d_UN_init_24 rfl 0 rfl ?_
  refine zx_sipush (pc := 25) C d_UN_init_25 (v := (4096 : Int32)) (by decide) ?_
  refine zx_newa (pc := 28) (ty := .int) (N := 4096) (a0 := (4096, .inl (fun _ => 0))) C rfl (by simp) zw_85 1 rfl (fun _ => rfl) (by decide) (by decide) (by decide) (Nat.le_of_ble_eq_true rfl) (Nat.le_of_ble_eq_true rfl) d_UN_init_28 (fun q28 => ?_)
  show zx_At p l e (zr 2 4 8196) s mi args below meth co (zx_Q below s D zcl w0 kr nr (zr 2 4 8196) post) D zcl (va_A w0 s.heap.size) 1 [(0, .ref a)] [(a, .inr (2, [.ref q5, .ref q19, .null, .null, .int (0 : Int32), .int (0 : Int32), .int (0 : Int32)])), (q5, .inr (0, [.int (0 : Int32), .int (0 : Int32), .int (0 : Int32), .int (0 : Int32)])), (q19, .inl (cI, 4096, .inl (fun _ => 0))), (q28, .inl (cI, 4096, .inl (fun _ => 0)))] 3 8196 30 [.ref q28, .ref a]
  refine zx_putF (pc := 30) (ci := 2) (Cn := R_UN) (T := T_UN) (N := 7) (v := .ref q28) (ty := .array .int) (ws' := [(a, .inr (2, [.ref q5, .ref q19, .ref q28, .null, .int (0 : Int32), .int (0 : Int32), .int (0 : Int32)])), (q5, .inr (0, [.int (0 : Int32), .int (0 : Int32), .int (0 : Int32), .int (0 : Int32)])), (q19, .inl (cI, 4096, .inl (fun _ => 0))), (q28, .inl (cI, 4096, .inl (fun _ => 0)))]) C zu_UN ty_UN tyk_UN nm_UN 0 rfl rfl 2 (by decide) zw_65 rfl rfl hnm9 rfl (by decide +kernel) rfl rfl (Nat.le_of_ble_eq_true rfl) rfl d_UN_init_30 ?_
  refine zx_aload_n (pc := 33) C d_UN_init_33 rfl 0 rfl ?_
  refine zx_iconst (pc := 34) C d_UN_init_34 (v := (0 : Int32)) (by decide) ?_
  refine zx_newa (pc := 35) (ty := .byte) (N := 0) (a0 := (0, .inl (fun _ => 0))) C rfl (by simp) zw_62 0 rfl (fun _ => rfl) (by decide) (by decide) (by decide) (Nat.le_of_ble_eq_true rfl) (Nat.le_of_ble_eq_true rfl) d_UN_init_35 (fun q35 => ?_)
  show zx_At p l e (zr 2 4 8196) s mi args below meth co (zx_Q below s D zcl w0 kr nr (zr 2 4 8196) post) D zcl (va_A w0 s.heap.size) 1 [(0, .ref a)] [(a, .inr (2, [.ref q5, .ref q19, .ref q28, .null, .int (0 : Int32), .int (0 : Int32), .int (0 : Int32)])), (q5, .inr (0, [.int (0 : Int32), .int (0 : Int32), .int (0 : Int32), .int (0 : Int32)])), (q19, .inl (cI, 4096, .inl (fun _ => 0))), (q28, .inl (cI, 4096, .inl (fun _ => 0))), (q35, .inl (cB, 0, .inl (fun _ => 0)))] 4 8196 37 [.ref q35, .ref a]
  refine zx_put (pc := 37) (ci := 2) (Cn := R_UN) (T := T_UN) (N := 7) (v := .ref q35) (ty := .array .byte) (ws' := [(a, .inr (2, [.ref q5, .ref q19, .ref q28, .ref q35, .int (0 : Int32), .int (0 : Int32), .int (0 : Int32)])), (q5, .inr (0, [.int (0 : Int32), .int (0 : Int32), .int (0 : Int32), .int (0 : Int32)])), (q19, .inl (cI, 4096, .inl (fun _ => 0))), (q28, .inl (cI, 4096, .inl (fun _ => 0))), (q35, .inl (cB, 0, .inl (fun _ => 0)))]) C zu_UN ty_UN tyk_UN nm_UN 0 rfl rfl 3 (by decide) zw_66 rfl rfl (by decide +kernel) rfl rfl (Nat.le_of_ble_eq_true rfl) rfl d_UN_init_37 ?_
  refine zx_aload_n (pc := 40) C d_UN_init_40 rfl 0 rfl ?_
  refine zx_iconst (pc := 41) C d_UN_init_41 (v := (0 : Int32)) (by decide) ?_
  refine zx_put (pc := 42) (ci := 2) (Cn := R_UN) (T := T_UN) (N := 7) (v := .int (0 : Int32)) (ty := .int) (ws' := [(a, .inr (2, [.ref q5, .ref q19, .ref q28, .ref q35, .int (0 : Int32), .int (0 : Int32), .int (0 : Int32)])), (q5, .inr (0, [.int (0 : Int32), .int (0 : Int32), .int (0 : Int32), .int (0 : Int32)])), (q19, .inl (cI, 4096, .inl (fun _ => 0))), (q28, .inl (cI, 4096, .inl (fun _ => 0))), (q35, .inl (cB, 0, .inl (fun _ => 0)))]) C zu_UN ty_UN tyk_UN nm_UN 0 rfl rfl 4 (by decide) zw_67 rfl rfl (by decide +kernel) rfl rfl (Nat.le_of_ble_eq_true rfl) rfl d_UN_init_42 ?_
  refine zx_aload_n (pc := 45) C d_UN_init_45 rfl 0 rfl ?_
  refine zx_iconst (pc := 46) C d_UN_init_46 (v := (0 : Int32)) (by decide) ?_
  refine zx_put (pc := 47) (ci := 2) (Cn := R_UN) (T := T_UN) (N := 7) (v := .int (0 : Int32)) (ty := .int) (ws' := [(a, .inr (2, [.ref q5, .ref q19, .ref q28, .ref q35, .int (0 : Int32), .int (0 : Int32), .int (0 : Int32)])), (q5, .inr (0, [.int (0 : Int32), .int (0 : Int32), .int (0 : Int32), .int (0 : Int32)])), (q19, .inl (cI, 4096, .inl (fun _ => 0))), (q28, .inl (cI, 4096, .inl (fun _ => 0))), (q35, .inl (cB, 0, .inl (fun _ => 0)))]) C zu_UN ty_UN tyk_UN nm_UN 0 rfl rfl 5 (by decide) zw_68 rfl rfl (by decide +kernel) rfl rfl (Nat.le_of_ble_eq_true rfl) rfl d_UN_init_47 ?_
  refine zx_aload_n (pc := 50) C d_UN_init_50 rfl 0 rfl ?_
  refine zx_iconst (pc := 51) C d_UN_init_51 (v := (0 : Int32)) (by decide) ?_
  refine zx_put (pc := 52) (ci := 2) (Cn := R_UN) (T := T_UN) (N := 7) (v := .int (0 : Int32)) (ty := .int) (ws' := [(a, .inr (2, [.ref q5, .ref q19, .ref q28, .ref q35, .int (0 : Int32), .int (0 : Int32), .int (0 : Int32)])), (q5, .inr (0, [.int (0 : Int32), .int (0 : Int32), .int (0 : Int32), .int (0 : Int32)])), (q19, .inl (cI, 4096, .inl (fun _ => 0))), (q28, .inl (cI, 4096, .inl (fun _ => 0))), (q35, .inl (cB, 0, .inl (fun _ => 0)))]) C zu_UN ty_UN tyk_UN nm_UN 0 rfl rfl 6 (by decide) zw_69 rfl rfl (by decide +kernel) rfl rfl (Nat.le_of_ble_eq_true rfl) rfl d_UN_init_52 ?_
  exact zx_vret (pc := 55) C hr9 hlk9 (Nat.le_trans (Nat.le_of_ble_eq_true rfl) hkr9) (Nat.le_trans (Nat.le_of_ble_eq_true rfl) hnr9) d_UN_init_55 (r55 q5 q19 q28 q35)

/-- Unpacker(): its rows and its numbering -/
theorem k_UN_init (l : Launch) (D : va_G) (cB cI cL : ClassId) (a : Nat) : zx_K l zB D zcl (zt cB cI cL) y_UN_init b_UN_init 1 (none) [] 4 8196 (zr 2 4 8196) [.ref a] [(a, .inr (2, [.null, .null, .null, .null, .int (0 : Int32), .int (0 : Int32), .int (0 : Int32)]))] (fun o w => ∃ na sa la ia : Nat, o = .returned none ∧ w = [(a, .inr (2, [.ref na, .ref sa, .ref la, .ref ia, .int 0, .int 0, .int 0])), (na, .inr (0, [.int 0, .int 0, .int 0, .int 0])), (sa, .inl (cI, 4096, .inl (zf (fun _ => 0)))), (la, .inl (cI, 4096, .inl (zf (fun _ => 0)))), (ia, .inl (cB, 0, .inl (fun _ => 0)))]) := by
  refine zx_K.mk (Nat.le_of_ble_eq_true rfl) (fun p e s mm below meth c9 C hr hlk ht hnm => ?_)
  exact sg_UN_init C hr hlk (Nat.le_refl _) (Nat.le_refl _) hnm (fun na sa la ia => ⟨na, sa, la, ia, rfl, rfl⟩)
set_option maxRecDepth 100000 in
set_option maxHeartbeats 4000000 in
theorem sg_PK_init {p : Program} {l : Launch} {e : Env} {s : State} {mi : MethodId} {args : Array Value} {below : List Frame} {meth : Method} {co : Code} {D : va_G} {cB cI cL : ClassId} {w0 : va_W} {kr nr : Nat} {post : Outcome → va_W → Prop} (C : zx_C p s mi args co b_PK_init 1 R_PK zB D zcl (zt cB cI cL) (va_A w0 s.heap.size)) {a : Nat} (hr9 : meth.sig.returnType = none) (hlk9 : meth.locks = false) (hkr9 : 6 ≤ kr) (hnr9 : 12296 ≤ nr) (hnm9 : meth.name = "<init>") (r53 : ∀ q5 : Nat, ∀ q16 : Nat, ∀ qb : Nat, ∀ q30 : Nat, ∀ q39 : Nat, ∀ q48 : Nat, post (.returned none) [(a, .inr (3, [.ref q5, .ref q16, .ref q30, .ref q39, .ref q48])), (q5, .inr (0, [.int (0 : Int32), .int (0 : Int32), .int (0 : Int32), .int (0 : Int32)])), (q16, .inr (1, [.ref qb, .int (0 : Int32), .int (0 : Int32), .int (0 : Int32)])), (qb, .inl (cB, 0, .inl (fun _ => 0))), (q30, .inl (cI, 4096, .inl (fun _ => 0))), (q39, .inl (cI, 4096, .inl (fun _ => 0))), (q48, .inl (cI, 4096, .inl (fun _ => 0)))]) : zx_At p l e (zr 2 6 12296) s mi args below meth co (zx_Q below s D zcl w0 kr nr (zr 2 6 12296) post) D zcl (va_A w0 s.heap.size) 1 [(0, .ref a)] [(a, .inr (3, [.null, .null, .null, .null, .null]))] 0 0 0 [] := by
  refine zx_aload_n (pc := 0) C d_PK_init_0 rfl 0 rfl ?_
  refine zx_objInit (pc := 1) C zw_91 zw_31 zw_32 d_PK_init_1 (Nat.le_of_ble_eq_true rfl) (Nat.le_of_ble_eq_true rfl) ?_
  refine zx_aload_n (pc := 4) C d_PK_init_4 rfl 0 rfl ?_
  refine zx_new (pc := 5) (ci := 0) (Cn := R_NU) (T := T_NU) (N := 4) (fs := [.int (0 : Int32), .int (0 : Int32), .int (0 : Int32), .int (0 : Int32)]) C zu_NU ty_NU tyk_NU zw_92 zw_40 zw_3 rfl (zd_NU) (Nat.le_of_ble_eq_true rfl) (Nat.le_of_ble_eq_true rfl) d_PK_init_5 (fun q5 => ?_)
  show zx_At p l e (zr 2 6 12296) s mi args below meth co (zx_Q below s D zcl w0 kr nr (zr 2 6 12296) post) D zcl (va_A w0 s.heap.size) 1 [(0, .ref a)] [(a, .inr (3, [.null, .null, .null, .null, .null])), (q5, .inr (0, [.int (0 : Int32), .int (0 : Int32), .int (0 : Int32), .int (0 : Int32)]))] 1 4 8 [.ref q5, .ref a]
  refine zx_dup (pc := 8) C d_PK_init_8 rfl ?_
  refine zx_callIN (hs := []) (ret := none) (pc := 9) (ix := 11) (As := []) (b := q5) (wr := [(a, .inr (3, [.null, .null, .null, .null, .null]))]) (st := [.ref q5, .ref a]) C (by decide +kernel) ⟨by decide +kernel, by decide +kernel⟩ zw_43 rfl zw_42 zw_93 rfl rfl (k_NU_init l D cB cI cL q5 0 0 0 0) rfl [1] [0] rfl rfl (by decide) (by decide) (by decide) (Nat.le_of_ble_eq_true rfl) (Nat.le_of_ble_eq_true rfl) (Nat.le_of_ble_eq_true rfl) (Nat.le_of_ble_eq_true rfl) d_PK_init_9 (fun o w1 hp => ?_)
  obtain ⟨rfl, rfl⟩ := hp
  refine zx_rv (k2 := 1) (n2 := 4) rfl rfl ?_
  refine zx_ws (ws' := [(a, .inr (3, [.null, .null, .null, .null, .null])), (q5, .inr (0, [.int (0 : Int32), .int (0 : Int32), .int (0 : Int32), .int (0 : Int32)]))]) [0, 1] (by decide) rfl ?_
  refine zx_putF (pc := 12) (ci := 3) (Cn := R_PK) (T := T_PK) (N := 5) (v := .ref q5) (ty := .object "LzwBox$Numbering") (ws' := [(a, .inr (3, [.ref q5, .null, .null, .null, .null])), (q5, .inr (0, [.int (0 : Int32), .int (0 : Int32), .int (0 : Int32), .int (0 : Int32)]))]) C zu_PK ty_PK tyk_PK nm_PK 0 rfl rfl 0 (by decide) zw_113 rfl rfl hnm9 rfl (by decide +kernel) rfl rfl (Nat.le_of_ble_eq_true rfl) rfl d_PK_init_12 ?_
  refine zx_aload_n (pc := 15) C d_PK_init_15 rfl 0 rfl ?_
  refine zx_new (pc := 16) (ci := 1) (Cn := R_BS) (T := T_BS) (N := 4) (fs := [.null, .int (0 : Int32), .int (0 : Int32), .int (0 : Int32)]) C zu_BS ty_BS tyk_BS zw_94 zw_95 zw_5 rfl (zd_BS) (Nat.le_of_ble_eq_true rfl) (Nat.le_of_ble_eq_true rfl) d_PK_init_16 (fun q16 => ?_)
  show zx_At p l e (zr 2 6 12296) s mi args below meth co (zx_Q below s D zcl w0 kr nr (zr 2 6 12296) post) D zcl (va_A w0 s.heap.size) 1 [(0, .ref a)] [(a, .inr (3, [.ref q5, .null, .null, .null, .null])), (q5, .inr (0, [.int (0 : Int32), .int (0 : Int32), .int (0 : Int32), .int (0 : Int32)])), (q16, .inr (1, [.null, .int (0 : Int32), .int (0 : Int32), .int (0 : Int32)]))] 2 8 19 [.ref q16, .ref a]
  refine zx_dup (pc := 19) C d_PK_init_19 rfl ?_
  refine zx_callI (hs := []) (ret := none) (pc := 20) (ix := 20) (As := []) (b := q16) (wr := [(a, .inr (3, [.ref q5, .null, .null, .null, .null])), (q5, .inr (0, [.int (0 : Int32), .int (0 : Int32), .int (0 : Int32), .int (0 : Int32)]))]) (st := [.ref q16, .ref a]) C (by decide +kernel) ⟨by decide +kernel, by decide +kernel⟩ zw_98 rfl zw_97 zw_96 rfl rfl (k_BS_init l D cB cI cL q16 0 0 0) rfl [2] [0, 1] rfl rfl (by decide) (by decide) (by decide) (Nat.le_of_ble_eq_true rfl) (Nat.le_of_ble_eq_true rfl) (Nat.le_of_ble_eq_true rfl) (Nat.le_of_ble_eq_true rfl) d_PK_init_20 (fun o w1 hp => ?_)
  obtain ⟨qb, rfl, rfl⟩ := hp
  refine zx_rv (k2 := 3) (n2 := 8) rfl rfl ?_
  refine zx_ws (ws' := [(a, .inr (3, [.ref q5, .null, .null, .null, .null])), (q5, .inr (0, [.int (0 : Int32), .int (0 : Int32), .int (0 : Int32), .int (0 : Int32)])), (q16, .inr (1, [.ref qb, .int (0 : Int32), .int (0 : Int32), .int (0 : Int32)])), (qb, .inl (cB, 0, .inl (fun _ => 0)))]) [0, 1, 2, 3] (by decide) rfl ?_
  refine zx_putF (pc := 23) (ci := 3) (Cn := R_PK) (T := T_PK) (N := 5) (v := .ref q16) (ty := .object "LzwBox$BitSink") (ws' := [(a, .inr (3, [.ref q5, .ref q16, .null, .null, .null])), (q5, .inr (0, [.int (0 : Int32), .int (0 : Int32), .int (0 : Int32), .int (0 : Int32)])), (q16, .inr (1, [.ref qb, .int (0 : Int32), .int (0 : Int32), .int (0 : Int32)])), (qb, .inl (cB, 0, .inl (fun _ => 0)))]) C zu_PK ty_PK tyk_PK nm_PK 0 rfl rfl 1 (by decide) zw_114 rfl rfl hnm9 rfl (by decide +kernel) rfl rfl (Nat.le_of_ble_eq_true rfl) rfl d_PK_init_23 ?_
  refine zx_aload_n (pc := 26) C d_PK_init_26 rfl 0 rfl ?_
  refine zx_sipush (pc := 27) C d_PK_init_27 (v := (4096 : Int32)) (by decide) ?_
  refine zx_newa (pc := 30) (ty := .int) (N := 4096) (a0 := (4096, .inl (fun _ => 0))) C rfl (by simp) zw_85 1 rfl (fun _ => rfl) (by decide) (by decide) (by decide) (Nat.le_of_ble_eq_true rfl) (Nat.le_of_ble_eq_true rfl) d_PK_init_30 (fun q30 => ?_)
  show zx_At p l e (zr 2 6 12296) s mi args below meth co (zx_Q below s D zcl w0 kr nr (zr 2 6 12296) post) D zcl (va_A w0 s.heap.size) 1 [(0, .ref a)] [(a, .inr (3, [.ref q5, .ref q16, .null, .null, .null])), (q5, .inr (0, [.int (0 : Int32), .int (0 : Int32), .int (0 : Int32), .int (0 : Int32)])), (q16, .inr (1, [.ref qb, .int (0 : Int32), .int (0 : Int32), .int (0 : Int32)])), (qb, .inl (cB, 0, .inl (fun _ => 0))), (q30, .inl (cI, 4096, .inl (fun _ => 0)))] 4 4104 32 [.ref q30, .ref a]
  refine zx_putF (pc := 32) (ci := 3) (Cn := R_PK) (T := T_PK) (N := 5) (v := .ref q30) (ty := .array .int) (ws' := [(a, .inr (3, [.ref q5, .ref q16, .ref q30, .null, .null])), (q5, .inr (0, [.int (0 : Int32), .int (0 : Int32), .int (0 : Int32), .int (0 : Int32)])), (q16, .inr (1, [.ref qb, .int (0 : Int32), .int (0 : Int32), .int (0 : Int32)])), (qb, .inl (cB, 0, .inl (fun _ => 0))), (q30, .inl (cI, 4096, .inl (fun _ => 0)))]) C zu_PK ty_PK tyk_PK nm_PK 0 rfl rfl 2 (by decide) zw_115 rfl rfl hnm9 rfl (by decide +kernel) rfl rfl (Nat.le_of_ble_eq_true rfl) rfl d_PK_init_32 ?_
  refine zx_aload_n (pc := 35) C d_PK_init_35 rfl 0 rfl ?_
  refine zx_sipush (pc := 36) C d_PK_init_36 (v := (4096 : Int32)) (by decide) ?_
  refine zx_newa (pc := 39) (ty := .int) (N := 4096) (a0 := (4096, .inl (fun _ => 0))) C rfl (by simp) zw_85 1 rfl (fun _ => rfl) (by decide) (by decide) (by decide) (Nat.le_of_ble_eq_true rfl) (Nat.le_of_ble_eq_true rfl) d_PK_init_39 (fun q39 => ?_)
  show zx_At p l e (zr 2 6 12296) s mi args below meth co (zx_Q below s D zcl w0 kr nr (zr 2 6 12296) post) D zcl (va_A w0 s.heap.size) 1 [(0, .ref a)] [(a, .inr (3, [.ref q5, .ref q16, .ref q30, .null, .null])), (q5, .inr (0, [.int (0 : Int32), .int (0 : Int32), .int (0 : Int32), .int (0 : Int32)])), (q16, .inr (1, [.ref qb, .int (0 : Int32), .int (0 : Int32), .int (0 : Int32)])), (qb, .inl (cB, 0, .inl (fun _ => 0))), (q30, .inl (cI, 4096, .inl (fun _ => 0))), (q39, .inl (cI, 4096, .inl (fun _ => 0)))] 5 8200 41 [.ref q39, .ref a]
  refine zx_putF (pc := 41) (ci := 3) (Cn := R_PK) (T := T_PK) (N := 5) (v := .ref q39) (ty := .array .int) (ws' := [(a, .inr (3, [.ref q5, .ref q16, .ref q30, .ref q39, .null])), (q5, .inr (0, [.int (0 : Int32), .int (0 : Int32), .int (0 : Int32), .int (0 : Int32)])), (q16, .inr (1, [.ref qb, .int (0 : Int32), .int (0 : Int32), .int (0 : Int32)])), (qb, .inl (cB, 0, .inl (fun _ => 0))), (q30, .inl (cI, 4096, .inl (fun _ => 0))), (q39, .inl (cI, 4096, .inl (fun _ => 0)))]) C zu_PK ty_PK tyk_PK nm_PK 0 rfl rfl 3 (by decide) zw_116 rfl rfl hnm9 rfl (by decide +kernel) rfl rfl (Nat.le_of_ble_eq_true rfl) rfl d_PK_init_41 ?_
  refine zx_aload_n (pc := 44) C d_PK_init_44 rfl 0 rfl ?_
  refine zx_sipush (pc := 45) C d_PK_init_45 (v := (4096 : Int32)) (by decide) ?_
  refine zx_newa (pc := 48) (ty := .int) (N := 4096) (a0 := (4096, .inl (fun _ => 0))) C rfl (by simp) zw_85 1 rfl (fun _ => rfl) (by decide) (by decide) (by decide) (Nat.le_of_ble_eq_true rfl) (Nat.le_of_ble_eq_true rfl) d_PK_init_48 (fun q48 => ?_)
  show zx_At p l e (zr 2 6 12296) s mi args below meth co (zx_Q below s D zcl w0 kr nr (zr 2 6 12296) post) D zcl (va_A w0 s.heap.size) 1 [(0, .ref a)] [(a, .inr (3, [.ref q5, .ref q16, .ref q30, .ref q39, .null])), (q5, .inr (0, [.int (0 : Int32), .int (0 : Int32), .int (0 : Int32), .int (0 : Int32)])), (q16, .inr (1, [.ref qb, .int (0 : Int32), .int (0 : Int32), .int (0 : Int32)])), (qb, .inl (cB, 0, .inl (fun _ => 0))), (q30, .inl (cI, 4096, .inl (fun _ => 0))), (q39, .inl (cI, 4096, .inl (fun _ => 0))), (q48, .inl (cI, 4096, .inl (fun _ => 0)))] 6 12296 50 [.ref q48, .ref a]
  refine zx_putF (pc := 50) (ci := 3) (Cn := R_PK) (T := T_PK) (N := 5) (v := .ref q48) (ty := .array .int) (ws' := [(a, .inr (3, [.ref q5, .ref q16, .ref q30, .ref q39, .ref q48])), (q5, .inr (0, [.int (0 : Int32), .int (0 : Int32), .int (0 : Int32), .int (0 : Int32)])), (q16, .inr (1, [.ref qb, .int (0 : Int32), .int (0 : Int32), .int (0 : Int32)])), (qb, .inl (cB, 0, .inl (fun _ => 0))), (q30, .inl (cI, 4096, .inl (fun _ => 0))), (q39, .inl (cI, 4096, .inl (fun _ => 0))), (q48, .inl (cI, 4096, .inl (fun _ => 0)))]) C zu_PK ty_PK tyk_PK nm_PK 0 rfl rfl 4 (by decide) zw_117 rfl rfl hnm9 rfl (by decide +kernel) rfl rfl (Nat.le_of_ble_eq_true rfl) rfl d_PK_init_50 ?_
  exact zx_vret (pc := 53) C hr9 hlk9 (Nat.le_trans (Nat.le_of_ble_eq_true rfl) hkr9) (Nat.le_trans (Nat.le_of_ble_eq_true rfl) hnr9) d_PK_init_53 (r53 q5 q16 qb q30 q39 q48)

/-- Packer() -/
theorem k_PK_init (l : Launch) (D : va_G) (cB cI cL : ClassId) (a : Nat) : zx_K l zB D zcl (zt cB cI cL) y_PK_init b_PK_init 1 (none) [] 6 12296 (zr 2 6 12296) [.ref a] [(a, .inr (3, [.null, .null, .null, .null, .null]))] (fun o w => ∃ na ka qb fa sa la : Nat, o = .returned none ∧ w = [(a, .inr (3, [.ref na, .ref ka, .ref fa, .ref sa, .ref la])), (na, .inr (0, [.int 0, .int 0, .int 0, .int 0])), (ka, .inr (1, [.ref qb, .int 0, .int 0, .int 0])), (qb, .inl (cB, 0, .inl (fun _ => 0))), (fa, .inl (cI, 4096, .inl (zf (fun _ => 0)))), (sa, .inl (cI, 4096, .inl (zf (fun _ => 0)))), (la, .inl (cI, 4096, .inl (zf (fun _ => 0))))]) := by
  refine zx_K.mk (Nat.le_of_ble_eq_true rfl) (fun p e s mm below meth c9 C hr hlk ht hnm => ?_)
  exact sg_PK_init C hr hlk (Nat.le_refl _) (Nat.le_refl _) hnm (fun na ka qb fa sa la => ⟨na, ka, qb, fa, sa, la, rfl, rfl⟩)
def R_AR : String := "java/util/Arrays"
abbrev b_AR_fill : ByteArray := prog_24_method_104_code
def y_AR_fill : MethodName := ⟨R_AR, "fill", "([IIII)V"⟩
abbrev b_AR_rangeCheck : ByteArray := prog_24_method_30_code
def y_AR_rangeCheck : MethodName := ⟨R_AR, "rangeCheck", "(III)V"⟩
theorem d_AR_rangeCheck_0 : decode b_AR_rangeCheck 0 = .ok (.iload_n 1, 1) := by decide +kernel
theorem d_AR_rangeCheck_1 : decode b_AR_rangeCheck 1 = .ok (.iload_n 2, 1) := by decide +kernel
theorem d_AR_rangeCheck_2 : decode b_AR_rangeCheck 2 = .ok (.if_icmp .le 44, 3) := by decide +kernel
theorem d_AR_rangeCheck_46 : decode b_AR_rangeCheck 46 = .ok (.iload_n 1, 1) := by decide +kernel
theorem d_AR_rangeCheck_47 : decode b_AR_rangeCheck 47 = .ok (.ifCond .ge 12, 3) := by decide +kernel
theorem d_AR_rangeCheck_59 : decode b_AR_rangeCheck 59 = .ok (.iload_n 2, 1) := by decide +kernel
theorem d_AR_rangeCheck_60 : decode b_AR_rangeCheck 60 = .ok (.iload_n 0, 1) := by decide +kernel
theorem d_AR_rangeCheck_61 : decode b_AR_rangeCheck 61 = .ok (.if_icmp .le 12, 3) := by decide +kernel
theorem d_AR_rangeCheck_73 : decode b_AR_rangeCheck 73 = .ok (.return_, 1) := by decide +kernel
theorem d_AR_fill_0 : decode b_AR_fill 0 = .ok (.aload_n 0, 1) := by decide +kernel
theorem d_AR_fill_1 : decode b_AR_fill 1 = .ok (.arraylength, 1) := by decide +kernel
theorem d_AR_fill_2 : decode b_AR_fill 2 = .ok (.iload_n 1, 1) := by decide +kernel
theorem d_AR_fill_3 : decode b_AR_fill 3 = .ok (.iload_n 2, 1) := by decide +kernel
theorem d_AR_fill_4 : decode b_AR_fill 4 = .ok (.invokestatic 13, 3) := by decide +kernel
theorem d_AR_fill_7 : decode b_AR_fill 7 = .ok (.iload_n 1, 1) := by decide +kernel
theorem d_AR_fill_8 : decode b_AR_fill 8 = .ok (.istore 4, 2) := by decide +kernel
theorem d_AR_fill_10 : decode b_AR_fill 10 = .ok (.iload 4, 2) := by decide +kernel
theorem d_AR_fill_12 : decode b_AR_fill 12 = .ok (.iload_n 2, 1) := by decide +kernel
theorem d_AR_fill_13 : decode b_AR_fill 13 = .ok (.if_icmp .ge 14, 3) := by decide +kernel
theorem d_AR_fill_16 : decode b_AR_fill 16 = .ok (.aload_n 0, 1) := by decide +kernel
theorem d_AR_fill_17 : decode b_AR_fill 17 = .ok (.iload 4, 2) := by decide +kernel
theorem d_AR_fill_19 : decode b_AR_fill 19 = .ok (.iload_n 3, 1) := by decide +kernel
theorem d_AR_fill_20 : decode b_AR_fill 20 = .ok (.iastore, 1) := by decide +kernel
theorem d_AR_fill_21 : decode b_AR_fill 21 = .ok (.iinc 4 1, 3) := by decide +kernel
theorem d_AR_fill_24 : decode b_AR_fill 24 = .ok (.goto (-14), 3) := by decide +kernel
theorem d_AR_fill_27 : decode b_AR_fill 27 = .ok (.return_, 1) := by decide +kernel
set_option maxRecDepth 100000 in
set_option maxHeartbeats 4000000 in
theorem sg_AR_range {p : Program} {l : Launch} {e : Env} {R : Room} {s : State} {mi : MethodId} {args : Array Value} {below : List Frame} {meth : Method} {co : Code} {D : va_G} {cB cI cL : ClassId} {w0 : va_W} {kr nr : Nat} {post : Outcome → va_W → Prop} (C : zx_C p s mi args co b_AR_rangeCheck 3 R_AR zB D zcl (zt cB cI cL) (va_A w0 s.heap.size)) {n i j : Nat} (hr9 : meth.sig.returnType = none) (hlk9 : meth.locks = false) (r73 : ((nI i) ≤ (nI j)) → (0 ≤ (nI i)) → ((nI j) ≤ (nI n)) → post (.returned none) []) (k64 : ((nI i) ≤ (nI j)) → (0 ≤ (nI i)) → (¬ (nI j) ≤ (nI n)) → zx_At p l e R s mi args below meth co (zx_Q below s D zcl w0 kr nr R post) D zcl (va_A w0 s.heap.size) 3 [(0, .int (nI n)), (1, .int (nI i)), (2, .int (nI j))] [] 0 0 64 []) (k50 : ((nI i) ≤ (nI j)) → (¬ 0 ≤ (nI i)) → zx_At p l e R s mi args below meth co (zx_Q below s D zcl w0 kr nr R post) D zcl (va_A w0 s.heap.size) 3 [(0, .int (nI n)), (1, .int (nI i)), (2, .int (nI j))] [] 0 0 50 []) (k5 : (¬ (nI i) ≤ (nI j)) → zx_At p l e R s mi args below meth co (zx_Q below s D zcl w0 kr nr R post) D zcl (va_A w0 s.heap.size) 3 [(0, .int (nI n)), (1, .int (nI i)), (2, .int (nI j))] [] 0 0 5 []) : zx_At p l e R s mi args below meth co (zx_Q below s D zcl w0 kr nr R post) D zcl (va_A w0 s.heap.size) 3 [(0, .int (nI n)), (1, .int (nI i)), (2, .int (nI j))] [] 0 0 0 [] := by
  refine zx_iload_n (pc := 0) C d_AR_rangeCheck_0 rfl 1 rfl ?_
  refine zx_iload_n (pc := 1) C d_AR_rangeCheck_1 rfl 2 rfl ?_
  refine zx_icmp_le (pc := 2) C 46 d_AR_rangeCheck_2 (by decide) (fun c2 => ?_) (fun c2 => ?_)
  · refine zx_iload_n (pc := 46) C d_AR_rangeCheck_46 rfl 1 rfl ?_
    refine zx_if_ge (pc := 47) C 59 d_AR_rangeCheck_47 (by decide) (fun c47 => ?_) (fun c47 => ?_)
    · refine zx_iload_n (pc := 59) C d_AR_rangeCheck_59 rfl 2 rfl ?_
      refine zx_iload_n (pc := 60) C d_AR_rangeCheck_60 rfl 0 rfl ?_
      refine zx_icmp_le (pc := 61) C 73 d_AR_rangeCheck_61 (by decide) (fun c61 => ?_) (fun c61 => ?_)
      · exact zx_vret (pc := 73) C hr9 hlk9 (Nat.zero_le _) (Nat.zero_le _) d_AR_rangeCheck_73 (r73 c2 c47 c61)
      · exact k64 c2 c47 c61
    · exact k50 c2 c47
  · exact k5 c2

theorem k_AR_rangeCheck (l : Launch) (D : va_G) (cB cI cL : ClassId) (R : Room) (n i j : Nat) (h1 : i ≤ j) (h2 : j ≤ n) (h3 : n < 2 ^ 31) : zx_K l zB D zcl (zt cB cI cL) y_AR_rangeCheck b_AR_rangeCheck 3 (none) [] 0 0 R [.int (nI n), .int (nI i), .int (nI j)] [] (fun o w => o = .returned none ∧ w = []) := by
  refine zx_K.mk (Nat.le_of_ble_eq_true rfl) (fun p e s mm below meth c9 C hr hlk ht hnm => ?_)
  have g1 : nI i ≤ nI j := (nI_leI (by omega) (by omega)).mpr h1
  have g2 : 0 ≤ nI i := nI_pos' (by omega)
  have g3 : nI j ≤ nI n := (nI_leI (by omega) (by omega)).mpr h2
  exact sg_AR_range C hr hlk (fun _ _ _ => ⟨rfl, rfl⟩) (fun _ _ z => absurd g3 z) (fun _ z => absurd g2 z) (fun z => absurd g1 z)
set_option maxRecDepth 100000 in
set_option maxHeartbeats 4000000 in
theorem sg_AR_fill {p : Program} {l : Launch} {e : Env} {s : State} {mi : MethodId} {args : Array Value} {below : List Frame} {meth : Method} {co : Code} {D : va_G} {cB cI cL : ClassId} {Q : State → Prop} {A : Nat → Prop} (C : zx_C p s mi args co b_AR_fill 5 R_AR zB D zcl (zt cB cI cL) A) {a i j : Nat} {v9 : Int32} {f : Nat → Int32} (h1 : i ≤ j) (h2 : j ≤ 4096) (k10 : zx_At p l e (zr 1 0 0) s mi args below meth co Q D zcl A 5 [(0, .ref a), (1, .int (nI i)), (2, .int (nI j)), (3, .int v9), (4, .int (nI i))] [(a, .inl (cI, 4096, .inl f))] 0 0 10 []) : zx_At p l e (zr 1 0 0) s mi args below meth co Q D zcl A 5 [(0, .ref a), (1, .int (nI i)), (2, .int (nI j)), (3, .int v9)] [(a, .inl (cI, 4096, .inl f))] 0 0 0 [] := by
  refine zx_aload_n (pc := 0) C d_AR_fill_0 rfl 0 rfl ?_
  refine zx_alen (pc := 1) C 0 1 rfl rfl (v := nI 4096) rfl d_AR_fill_1 ?_
  refine zx_iload_n (pc := 2) C d_AR_fill_2 rfl 1 rfl ?_
  refine zx_iload_n (pc := 3) C d_AR_fill_3 rfl 2 rfl ?_
  refine zx_callS (pc := 4) (ix := 13) (wr := [(a, .inl (cI, 4096, .inl f))]) (st := []) C (zx_cw.of (C.w zw_392)) (by decide +kernel) ⟨by decide +kernel, by decide +kernel⟩ zw_391 zw_14 zw_390 rfl (k_AR_rangeCheck l D cB cI cL (zr 0 0 0) 4096 i j h1 h2 (by decide)) rfl [] [0] rfl rfl (by decide) (by decide) (by decide) (Nat.le_of_ble_eq_true rfl) (Nat.le_of_ble_eq_true rfl) (Nat.le_of_ble_eq_true rfl) (Nat.le_of_ble_eq_true rfl) d_AR_fill_4 (fun o w1 hp => ?_)
  obtain ⟨rfl, rfl⟩ := hp
  refine zx_rv (k2 := 0) (n2 := 0) rfl rfl ?_
  refine zx_ws (ws' := [(a, .inl (cI, 4096, .inl f))]) [0] (by decide) rfl ?_
  refine zx_iload_n (pc := 7) C d_AR_fill_7 rfl 1 rfl ?_
  refine zx_istore (pc := 8) C d_AR_fill_8 (by decide) (lv' := [(4, .int (nI i)), (0, .ref a), (1, .int (nI i)), (2, .int (nI j)), (3, .int v9)]) rfl ?_
  refine zx_lv (lv' := [(0, .ref a), (1, .int (nI i)), (2, .int (nI j)), (3, .int v9), (4, .int (nI i))]) [1, 2, 3, 4, 0] rfl ?_
  exact k10

set_option maxRecDepth 100000 in
set_option maxHeartbeats 4000000 in
theorem sg_AR_fill10 {p : Program} {l : Launch} {e : Env} {s : State} {mi : MethodId} {args : Array Value} {below : List Frame} {meth : Method} {co : Code} {D : va_G} {cB cI cL : ClassId} {w0 : va_W} {kr nr : Nat} {post : Outcome → va_W → Prop} (C : zx_C p s mi args co b_AR_fill 5 R_AR zB D zcl (zt cB cI cL) (va_A w0 s.heap.size)) {a j k : Nat} {v9 i9 : Int32} {f : Nat → Int32} (hr9 : meth.sig.returnType = none) (hlk9 : meth.locks = false) (r27 : ((nI j) ≤ (nI k)) → post (.returned none) [(a, .inl (cI, 4096, .inl f))]) (b20 : (¬ (nI j) ≤ (nI k)) → (nI k) = nI k ∧ k < 4096) (e21 : (¬ (nI j) ≤ (nI k)) → (nI k) + (1 : Int32) = (nI (k + 1))) (k10 : (¬ (nI j) ≤ (nI k)) → zx_At p l e (zr 1 0 0) s mi args below meth co (zx_Q below s D zcl w0 kr nr (zr 1 0 0) post) D zcl (va_A w0 s.heap.size) 5 [(0, .ref a), (1, .int i9), (2, .int (nI j)), (3, .int v9), (4, .int (nI (k + 1)))] [(a, .inl (cI, 4096, .inl (upd f k v9)))] 0 0 10 []) : zx_At p l e (zr 1 0 0) s mi args below meth co (zx_Q below s D zcl w0 kr nr (zr 1 0 0) post) D zcl (va_A w0 s.heap.size) 5 [(0, .ref a), (1, .int i9), (2, .int (nI j)), (3, .int v9), (4, .int (nI k))] [(a, .inl (cI, 4096, .inl f))] 0 0 10 [] := by
  refine zx_iload (pc := 10) C d_AR_fill_10 4 rfl ?_
  refine zx_iload_n (pc := 12) C d_AR_fill_12 rfl 2 rfl ?_
  refine zx_icmp_ge (pc := 13) C 27 d_AR_fill_13 (by decide) (fun c13 => ?_) (fun c13 => ?_)
  · exact zx_vret (pc := 27) C hr9 hlk9 (Nat.zero_le _) (Nat.zero_le _) d_AR_fill_27 (r27 c13)
  · refine zx_aload_n (pc := 16) C d_AR_fill_16 rfl 0 rfl ?_
    refine zx_iload (pc := 17) C d_AR_fill_17 4 rfl ?_
    refine zx_iload_n (pc := 19) C d_AR_fill_19 rfl 3 rfl ?_
    refine zx_iast (pc := 20) (ws' := [(a, .inl (cI, 4096, .inl (upd f k v9)))]) C 0 1 rfl rfl k (b20 c13).1 (b20 c13).2 (by decide) rfl d_AR_fill_20 ?_
    refine zx_iinc (pc := 21) C d_AR_fill_21 4 rfl (v := (nI (k + 1))) (e21 c13) (by decide) (lv' := [(4, .int (nI (k + 1))), (0, .ref a), (1, .int i9), (2, .int (nI j)), (3, .int v9)]) rfl ?_
    refine zx_goto (pc := 24) C 10 d_AR_fill_24 (by decide) ?_
    refine zx_lv (lv' := [(0, .ref a), (1, .int i9), (2, .int (nI j)), (3, .int v9), (4, .int (nI (k + 1)))]) [1, 2, 3, 4, 0] rfl ?_
    exact k10 c13

/-- Arrays.fill from 0 to j -/
theorem k_AR_fill (l : Launch) (D : va_G) (cB cI cL : ClassId) (a j : Nat) (v9 : Int32) (f : Nat → Int32) (hj : j ≤ 4096) : zx_K l zB D zcl (zt cB cI cL) y_AR_fill b_AR_fill 5 (none) [] 0 0 (zr 1 0 0) [.ref a, .int (nI 0), .int (nI j), .int v9] [(a, .inl (cI, 4096, .inl f))] (fun o w => o = .returned none ∧ w = [(a, .inl (cI, 4096, .inl (fun k => if k < j then v9 else f k)))]) := by
  refine zx_K.mk (Nat.le_of_ble_eq_true rfl) (fun p e s mm below meth c9 C hr hlk ht hnm => ?_)
  have loop : ∀ (d k : Nat), k + d = j → zx_At p l e (zr 1 0 0) s mm (([.ref a, .int (nI 0), .int (nI j), .int v9] : List Value)).toArray below meth c9 (zx_Q below s D zcl [(a, .inl (cI, 4096, .inl f))] 0 0 (zr 1 0 0) (fun o w => o = .returned none ∧ w = [(a, .inl (cI, 4096, .inl (fun k => if k < j then v9 else f k)))])) D zcl (va_A [(a, .inl (cI, 4096, .inl f))] s.heap.size) 5 [(0, .ref a), (1, .int (nI 0)), (2, .int (nI j)), (3, .int v9), (4, .int (nI k))] [(a, .inl (cI, 4096, .inl (fun q => if q < k then v9 else f q)))] 0 0 10 [] := by
    intro d
    induction d with
    | zero =>
      intro k hk
      have key : nI j ≤ nI k := by rw [show k = j by omega]; exact Int32.le_refl _
      exact sg_AR_fill10 C hr hlk (fun _ => ⟨rfl, by rw [show k = j by omega]⟩) (fun z => absurd key z) (fun z => absurd key z) (fun z => absurd key z)
    | succ d ih =>
      intro k hk
      have nk : ¬ nI j ≤ nI k := fun z => absurd ((nI_leI (by omega) (by omega)).mp z) (by omega)
      refine sg_AR_fill10 C hr hlk (fun z => absurd z nk) (fun _ => ⟨rfl, by omega⟩) (fun _ => nI_1 k) (fun _ => ?_)
      have e1 : upd (fun q => if q < k then v9 else f q) k v9 = (fun q => if q < k + 1 then v9 else f q) := by
        funext q
        by_cases z : q = k
        · rw [z, pk_us, if_pos (by omega)]
        · rw [pk_un z]
          by_cases z2 : q < k
          · rw [if_pos z2, if_pos (by omega)]
          · rw [if_neg z2, if_neg (by omega)]
      rw [e1]
      exact ih (k + 1) (by omega)
  have e0 : (fun q => if q < 0 then v9 else f q) = f := by funext q; rw [if_neg (Nat.not_lt_zero _)]
  have h0 := loop j 0 (by omega)
  rw [e0] at h0
  exact sg_AR_fill C (Nat.zero_le _) hj h0
end
section
/-- the child with this last index, along the siblings -/
def zk_find (ns li : Nat → Nat) (ix : Nat) : Nat → Nat → Nat
  | 0, _ => 0
  | d + 1, c => if c = 0 then 0 else if li c = ix then c else zk_find ns li ix d (ns c)
def zk_clr (m : Nat) (fc : Nat → Nat) : Nat → Nat := fun j => if j < 2 ^ m then 0 else fc j
theorem zk_clr_f (m : Nat) (fc : Nat → Nat) : (fun k => if k < 2 ^ m then (0 : Int32) else (zf fc) k) = zf (zk_clr m fc) := by
  funext k
  unfold zk_clr zf
  by_cases h : k < 2 ^ m
  · simp only [if_pos h]; rfl
  · simp only [if_neg h]
set_option maxRecDepth 100000 in
set_option maxHeartbeats 4000000 in
theorem sg_PK_child {p : Program} {l : Launch} {e : Env} {R : Room} {s : State} {mi : MethodId} {args : Array Value} {below : List Frame} {meth : Method} {co : Code} {D : va_G} {cB cI cL : ClassId} {Q : State → Prop} {A : Nat → Prop} (C : zx_C p s mi args co b_PK_childOf 5 R_PK zB D zcl (zt cB cI cL) A) {a na ka fa sa la r ix : Nat} {fc ns li : Nat → Nat} (b5 : (nI r) = nI r ∧ r < 4096) (e5 : ((zf fc) r) = (nI (fc r))) (k10 : zx_At p l e R s mi args below meth co Q D zcl A 5 [(0, .ref a), (1, .int (nI r)), (2, .int (nI ix)), (3, .int (nI (fc r))), (4, .int (0 : Int32))] [(a, .inr (3, [.ref na, .ref ka, .ref fa, .ref sa, .ref la])), (fa, .inl (cI, 4096, .inl (zf fc))), (sa, .inl (cI, 4096, .inl (zf ns))), (la, .inl (cI, 4096, .inl (zf li)))] 0 0 10 []) : zx_At p l e R s mi args below meth co Q D zcl A 5 [(0, .ref a), (1, .int (nI r)), (2, .int (nI ix))] [(a, .inr (3, [.ref na, .ref ka, .ref fa, .ref sa, .ref la])), (fa, .inl (cI, 4096, .inl (zf fc))), (sa, .inl (cI, 4096, .inl (zf ns))), (la, .inl (cI, 4096, .inl (zf li)))] 0 0 0 [] := by
  refine zx_aload_n (pc := 0) C d_PK_childOf_0 rfl 0 rfl ?_
  refine zx_get (pc := 1) (ci := 3) (Cn := R_PK) (T := T_PK) (N := 5) (v := .ref fa) C zu_PK 0 rfl rfl 2 (by decide) zw_115 rfl rfl d_PK_childOf_1 ?_
  refine zx_iload_n (pc := 4) C d_PK_childOf_4 rfl 1 rfl ?_
  refine zx_iald (pc := 5) C 1 1 rfl rfl r (b5).1 (b5).2 (by decide) d_PK_childOf_5 ?_
  refine zx_seti (nI (fc r)) (e5) ?_
  refine zx_istore_n (pc := 6) C d_PK_childOf_6 rfl (by decide) (lv' := [(3, .int (nI (fc r))), (0, .ref a), (1, .int (nI r)), (2, .int (nI ix))]) rfl ?_
  refine zx_iconst (pc := 7) C d_PK_childOf_7 (v := (0 : Int32)) (by decide) ?_
  refine zx_istore (pc := 8) C d_PK_childOf_8 (by decide) (lv' := [(4, .int (0 : Int32)), (3, .int (nI (fc r))), (0, .ref a), (1, .int (nI r)), (2, .int (nI ix))]) rfl ?_
  refine zx_lv (lv' := [(0, .ref a), (1, .int (nI r)), (2, .int (nI ix)), (3, .int (nI (fc r))), (4, .int (0 : Int32))]) [2, 3, 4, 1, 0] rfl ?_
  exact k10

set_option maxRecDepth 100000 in
set_option maxHeartbeats 4000000 in
theorem sg_PK_child10 {p : Program} {l : Launch} {e : Env} {R : Room} {s : State} {mi : MethodId} {args : Array Value} {below : List Frame} {meth : Method} {co : Code} {D : va_G} {cB cI cL : ClassId} {w0 : va_W} {kr nr : Nat} {post : Outcome → va_W → Prop} (C : zx_C p s mi args co b_PK_childOf 5 R_PK zB D zcl (zt cB cI cL) (va_A w0 s.heap.size)) {a na ka fa sa la r ix ch k : Nat} {fc ns li : Nat → Nat} (hr9 : meth.sig.returnType = some .int) (hlk9 : meth.locks = false) (r48 : ((4096 : Int32) ≤ (nI k)) → post (.returned (some (.int (0 : Int32)))) [(a, .inr (3, [.ref na, .ref ka, .ref fa, .ref sa, .ref la])), (fa, .inl (cI, 4096, .inl (zf fc))), (sa, .inl (cI, 4096, .inl (zf ns))), (la, .inl (cI, 4096, .inl (zf li)))]) (r48_2 : (¬ (4096 : Int32) ≤ (nI k)) → ((nI ch) = 0) → post (.returned (some (.int (0 : Int32)))) [(a, .inr (3, [.ref na, .ref ka, .ref fa, .ref sa, .ref la])), (fa, .inl (cI, 4096, .inl (zf fc))), (sa, .inl (cI, 4096, .inl (zf ns))), (la, .inl (cI, 4096, .inl (zf li)))]) (b27 : (¬ (4096 : Int32) ≤ (nI k)) → (¬ (nI ch) = 0) → (nI ch) = nI ch ∧ ch < 4096) (e27 : (¬ (4096 : Int32) ≤ (nI k)) → (¬ (nI ch) = 0) → ((zf li) ch) = (nI (li ch))) (b39 : (¬ (4096 : Int32) ≤ (nI k)) → (¬ (nI ch) = 0) → (¬ (nI (li ch)) = (nI ix)) → (nI ch) = nI ch ∧ ch < 4096) (e39 : (¬ (4096 : Int32) ≤ (nI k)) → (¬ (nI ch) = 0) → (¬ (nI (li ch)) = (nI ix)) → ((zf ns) ch) = (nI (ns ch))) (e41 : (¬ (4096 : Int32) ≤ (nI k)) → (¬ (nI ch) = 0) → (¬ (nI (li ch)) = (nI ix)) → (nI k) + (1 : Int32) = (nI (k + 1))) (k10 : (¬ (4096 : Int32) ≤ (nI k)) → (¬ (nI ch) = 0) → (¬ (nI (li ch)) = (nI ix)) → zx_At p l e R s mi args below meth co (zx_Q below s D zcl w0 kr nr R post) D zcl (va_A w0 s.heap.size) 5 [(0, .ref a), (1, .int (nI r)), (2, .int (nI ix)), (3, .int (nI (ns ch))), (4, .int (nI (k + 1)))] [(a, .inr (3, [.ref na, .ref ka, .ref fa, .ref sa, .ref la])), (fa, .inl (cI, 4096, .inl (zf fc))), (sa, .inl (cI, 4096, .inl (zf ns))), (la, .inl (cI, 4096, .inl (zf li)))] 0 0 10 []) (r33 : (¬ (4096 : Int32) ≤ (nI k)) → (¬ (nI ch) = 0) → ((nI (li ch)) = (nI ix)) → post (.returned (some (.int (nI ch)))) [(a, .inr (3, [.ref na, .ref ka, .ref fa, .ref sa, .ref la])), (fa, .inl (cI, 4096, .inl (zf fc))), (sa, .inl (cI, 4096, .inl (zf ns))), (la, .inl (cI, 4096, .inl (zf li)))]) : zx_At p l e R s mi args below meth co (zx_Q below s D zcl w0 kr nr R post) D zcl (va_A w0 s.heap.size) 5 [(0, .ref a), (1, .int (nI r)), (2, .int (nI ix)), (3, .int (nI ch)), (4, .int (nI k))] [(a, .inr (3, [.ref na, .ref ka, .ref fa, .ref sa, .ref la])), (fa, .inl (cI, 4096, .inl (zf fc))), (sa, .inl (cI, 4096, .inl (zf ns))), (la, .inl (cI, 4096, .inl (zf li)))] 0 0 10 [] := by
  refine zx_iload (pc := 10) C d_PK_childOf_10 4 rfl ?_
  refine zx_sipush (pc := 12) C d_PK_childOf_12 (v := (4096 : Int32)) (by decide) ?_
  refine zx_icmp_ge (pc := 15) C 47 d_PK_childOf_15 (by decide) (fun c15 => ?_) (fun c15 => ?_)
  · refine zx_iconst (pc := 47) C d_PK_childOf_47 (v := (0 : Int32)) (by decide) ?_
    exact zx_iret (pc := 48) C hr9 hlk9 (Nat.zero_le _) (Nat.zero_le _) d_PK_childOf_48 (r48 c15)
  · refine zx_iload_n (pc := 18) C d_PK_childOf_18 rfl 3 rfl ?_
    refine zx_if_eq (pc := 19) C 47 d_PK_childOf_19 (by decide) (fun c19 => ?_) (fun c19 => ?_)
    · refine zx_iconst (pc := 47) C d_PK_childOf_47 (v := (0 : Int32)) (by decide) ?_
      exact zx_iret (pc := 48) C hr9 hlk9 (Nat.zero_le _) (Nat.zero_le _) d_PK_childOf_48 (r48_2 c15 c19)
    · refine zx_aload_n (pc := 22) C d_PK_childOf_22 rfl 0 rfl ?_
      refine zx_get (pc := 23) (ci := 3) (Cn := R_PK) (T := T_PK) (N := 5) (v := .ref la) C zu_PK 0 rfl rfl 4 (by decide) zw_117 rfl rfl d_PK_childOf_23 ?_
      refine zx_iload_n (pc := 26) C d_PK_childOf_26 rfl 3 rfl ?_
      refine zx_iald (pc := 27) C 3 1 rfl rfl ch (b27 c15 c19).1 (b27 c15 c19).2 (by decide) d_PK_childOf_27 ?_
      refine zx_seti (nI (li ch)) (e27 c15 c19) ?_
      refine zx_iload_n (pc := 28) C d_PK_childOf_28 rfl 2 rfl ?_
      refine zx_icmp_ne (pc := 29) C 34 d_PK_childOf_29 (by decide) (fun c29 => ?_) (fun c29 => ?_)
      · refine zx_aload_n (pc := 34) C d_PK_childOf_34 rfl 0 rfl ?_
        refine zx_get (pc := 35) (ci := 3) (Cn := R_PK) (T := T_PK) (N := 5) (v := .ref sa) C zu_PK 0 rfl rfl 3 (by decide) zw_116 rfl rfl d_PK_childOf_35 ?_
        refine zx_iload_n (pc := 38) C d_PK_childOf_38 rfl 3 rfl ?_
        refine zx_iald (pc := 39) C 2 1 rfl rfl ch (b39 c15 c19 c29).1 (b39 c15 c19 c29).2 (by decide) d_PK_childOf_39 ?_
        refine zx_seti (nI (ns ch)) (e39 c15 c19 c29) ?_
        refine zx_istore_n (pc := 40) C d_PK_childOf_40 rfl (by decide) (lv' := [(3, .int (nI (ns ch))), (0, .ref a), (1, .int (nI r)), (2, .int (nI ix)), (4, .int (nI k))]) rfl ?_
        refine zx_iinc (pc := 41) C d_PK_childOf_41 4 rfl (v := (nI (k + 1))) (e41 c15 c19 c29) (by decide) (lv' := [(4, .int (nI (k + 1))), (3, .int (nI (ns ch))), (0, .ref a), (1, .int (nI r)), (2, .int (nI ix))]) rfl ?_
        refine zx_goto (pc := 44) C 10 d_PK_childOf_44 (by decide) ?_
        refine zx_lv (lv' := [(0, .ref a), (1, .int (nI r)), (2, .int (nI ix)), (3, .int (nI (ns ch))), (4, .int (nI (k + 1)))]) [2, 3, 4, 1, 0] rfl ?_
        exact k10 c15 c19 c29
      · refine zx_iload_n (pc := 32) C d_PK_childOf_32 rfl 3 rfl ?_
        exact zx_iret (pc := 33) C hr9 hlk9 (Nat.zero_le _) (Nat.zero_le _) d_PK_childOf_33 (r33 c15 c19 c29)

set_option maxHeartbeats 1000000 in
theorem k_PK_childOf (l : Launch) (D : va_G) (cB cI cL : ClassId) (R : Room) (a na ka fa sa la r ix : Nat) (fc ns li : Nat → Nat) (hr0 : r < 4096) (hix : ix < 256) (hfc : ∀ j, fc j < 4096) (hns : ∀ j, ns j < 4096) (hli : ∀ j, li j < 256) : zx_K l zB D zcl (zt cB cI cL) y_PK_childOf b_PK_childOf 5 (some .int) [] 0 0 R [.ref a, .int (nI r), .int (nI ix)] [(a, .inr (3, [.ref na, .ref ka, .ref fa, .ref sa, .ref la])), (fa, .inl (cI, 4096, .inl (zf fc))), (sa, .inl (cI, 4096, .inl (zf ns))), (la, .inl (cI, 4096, .inl (zf li)))] (fun o w => o = .returned (some (.int (nI (zk_find ns li ix 4096 (fc r))))) ∧ w = [(a, .inr (3, [.ref na, .ref ka, .ref fa, .ref sa, .ref la])), (fa, .inl (cI, 4096, .inl (zf fc))), (sa, .inl (cI, 4096, .inl (zf ns))), (la, .inl (cI, 4096, .inl (zf li)))]) := by
  refine zx_K.mk (Nat.le_of_ble_eq_true rfl) (fun p e s mm below meth c9 C hr hlk ht hnm => ?_)
  have loop : ∀ (d k ch : Nat), k + d = 4096 → ch < 4096 → zk_find ns li ix d ch = zk_find ns li ix 4096 (fc r) → zx_At p l e R s mm (([.ref a, .int (nI r), .int (nI ix)] : List Value)).toArray below meth c9 (zx_Q below s D zcl [(a, .inr (3, [.ref na, .ref ka, .ref fa, .ref sa, .ref la])), (fa, .inl (cI, 4096, .inl (zf fc))), (sa, .inl (cI, 4096, .inl (zf ns))), (la, .inl (cI, 4096, .inl (zf li)))] 0 0 R (fun o w => o = .returned (some (.int (nI (zk_find ns li ix 4096 (fc r))))) ∧ w = [(a, .inr (3, [.ref na, .ref ka, .ref fa, .ref sa, .ref la])), (fa, .inl (cI, 4096, .inl (zf fc))), (sa, .inl (cI, 4096, .inl (zf ns))), (la, .inl (cI, 4096, .inl (zf li)))])) D zcl (va_A [(a, .inr (3, [.ref na, .ref ka, .ref fa, .ref sa, .ref la])), (fa, .inl (cI, 4096, .inl (zf fc))), (sa, .inl (cI, 4096, .inl (zf ns))), (la, .inl (cI, 4096, .inl (zf li)))] s.heap.size) 5 [(0, .ref a), (1, .int (nI r)), (2, .int (nI ix)), (3, .int (nI ch)), (4, .int (nI k))] [(a, .inr (3, [.ref na, .ref ka, .ref fa, .ref sa, .ref la])), (fa, .inl (cI, 4096, .inl (zf fc))), (sa, .inl (cI, 4096, .inl (zf ns))), (la, .inl (cI, 4096, .inl (zf li)))] 0 0 10 [] := by
    intro d
    induction d with
    | zero =>
      intro k ch hk hch he
      have key : (4096 : Int32) ≤ nI k := by rw [show k = 4096 by omega]; decide
      rw [zk_find] at he
      exact sg_PK_child10 C hr hlk (fun _ => ⟨by rw [← he]; rfl, rfl⟩) (fun z => absurd key z) (fun z => absurd key z) (fun z => absurd key z) (fun z => absurd key z) (fun z => absurd key z) (fun z => absurd key z) (fun z => absurd key z) (fun z => absurd key z)
    | succ d ih =>
      intro k ch hk hch he
      have nk : ¬ (4096 : Int32) ≤ nI k := fun z => absurd ((zp_ge (k := 4096) (K := 4096) rfl (by omega) (by decide)).mp z) (by omega)
      have k0 : nI ch = 0 ↔ ch = 0 := zp_eq (k := 0) (K := 0) rfl (by omega) (by decide)
      have h1 := hli ch
      have k1 : nI (li ch) = nI ix ↔ li ch = ix := nI_eq (by omega) (by omega)
      rw [zk_find] at he
      refine sg_PK_child10 C hr hlk (fun z => absurd z nk) (fun _ z => ⟨?_, rfl⟩) (fun _ _ => ⟨rfl, hch⟩) (fun _ _ => rfl) (fun _ _ _ => ⟨rfl, hch⟩) (fun _ _ _ => rfl) (fun _ _ _ => nI_1 k) (fun _ z1 z2 => ?_) (fun _ z1 z2 => ⟨?_, rfl⟩)
      · rw [if_pos (k0.mp z)] at he
        rw [← he]; rfl
      · rw [if_neg (mt k0.mpr z1), if_neg (mt k1.mpr z2)] at he
        exact ih (k + 1) (ns ch) (by omega) (hns ch) he
      · rw [if_neg (mt k0.mpr z1), if_pos (k1.mp z2)] at he
        rw [← he]
  exact sg_PK_child C ⟨rfl, hr0⟩ rfl (loop 4096 0 (fc r) rfl (hfc r) rfl)
set_option maxRecDepth 100000 in
set_option maxHeartbeats 4000000 in
theorem sg_PK_add {p : Program} {l : Launch} {e : Env} {s : State} {mi : MethodId} {args : Array Value} {below : List Frame} {meth : Method} {co : Code} {D : va_G} {cB cI cL : ClassId} {w0 : va_W} {kr nr : Nat} {post : Outcome → va_W → Prop} (C : zx_C p s mi args co b_PK_addChild 4 R_PK zB D zcl (zt cB cI cL) (va_A w0 s.heap.size)) {a na ka fa sa la m b x r ix : Nat} {fr : Bool} {fc ns li : Nat → Nat} (hx : x < 2 ^ 31) (hr9 : meth.sig.returnType = none) (hlk9 : meth.locks = false) (b25 : (¬ (zb (!fr && decide (x < 4096))) = 0) → (nI x) = nI x ∧ x < 4096) (b32 : (¬ (zb (!fr && decide (x < 4096))) = 0) → (nI x) = nI x ∧ x < 4096) (b43 : (¬ (zb (!fr && decide (x < 4096))) = 0) → (nI r) = nI r ∧ r < 4096) (b44 : (¬ (zb (!fr && decide (x < 4096))) = 0) → (nI x) = nI x ∧ x < 4096) (b51 : (¬ (zb (!fr && decide (x < 4096))) = 0) → (nI r) = nI r ∧ r < 4096) (r52 : (¬ (zb (!fr && decide (x < 4096))) = 0) → post (.returned none) [(a, .inr (3, [.ref na, .ref ka, .ref fa, .ref sa, .ref la])), (na, .inr (0, [.int (nI m), .int (nI b), .int (nI x), .int (zb fr)])), (fa, .inl (cI, 4096, .inl (upd (upd (zf fc) x (0 : Int32)) r (nI x)))), (sa, .inl (cI, 4096, .inl (upd (zf ns) x ((upd (zf fc) x (0 : Int32)) r)))), (la, .inl (cI, 4096, .inl (upd (zf li) x (nI ix))))]) (r10 : ((zb (!fr && decide (x < 4096))) = 0) → post (.returned none) [(a, .inr (3, [.ref na, .ref ka, .ref fa, .ref sa, .ref la])), (na, .inr (0, [.int (nI m), .int (nI b), .int (nI x), .int (zb fr)])), (fa, .inl (cI, 4096, .inl (zf fc))), (sa, .inl (cI, 4096, .inl (zf ns))), (la, .inl (cI, 4096, .inl (zf li)))]) : zx_At p l e (zr 2 0 0) s mi args below meth co (zx_Q below s D zcl w0 kr nr (zr 2 0 0) post) D zcl (va_A w0 s.heap.size) 4 [(0, .ref a), (1, .int (nI r)), (2, .int (nI ix))] [(a, .inr (3, [.ref na, .ref ka, .ref fa, .ref sa, .ref la])), (na, .inr (0, [.int (nI m), .int (nI b), .int (nI x), .int (zb fr)])), (fa, .inl (cI, 4096, .inl (zf fc))), (sa, .inl (cI, 4096, .inl (zf ns))), (la, .inl (cI, 4096, .inl (zf li)))] 0 0 0 [] := by
  refine zx_aload_n (pc := 0) C d_PK_addChild_0 rfl 0 rfl ?_
  refine zx_get (pc := 1) (ci := 3) (Cn := R_PK) (T := T_PK) (N := 5) (v := .ref na) C zu_PK 0 rfl rfl 0 (by decide) zw_113 rfl rfl d_PK_addChild_1 ?_
  refine zx_callV (pc := 4) (ix := 90) (As := []) (b := na) (q0 := 1) (wr := [(a, .inr (3, [.ref na, .ref ka, .ref fa, .ref sa, .ref la])), (fa, .inl (cI, 4096, .inl (zf fc))), (sa, .inl (cI, 4096, .inl (zf ns))), (la, .inl (cI, 4096, .inl (zf li)))]) (st := []) C (zx_cw.of (C.w zw_305)) (by decide +kernel) ⟨by decide +kernel, by decide +kernel⟩ zw_303 zw_304 zw_666 rfl rfl rfl rfl rfl (k_NU_nextCodeMakesRow l D cB cI cL na x (nI m) (nI b) fr hx) rfl [1] [0, 2, 3, 4] rfl rfl (by decide) (by decide) (by decide) (Nat.le_of_ble_eq_true rfl) (Nat.le_of_ble_eq_true rfl) (Nat.le_of_ble_eq_true rfl) (Nat.le_of_ble_eq_true rfl) d_PK_addChild_4 (fun o w1 hp => ?_)
  obtain ⟨rfl, rfl⟩ := hp
  refine zx_ri (k2 := 0) (n2 := 0) rfl rfl ?_
  refine zx_ws (ws' := [(a, .inr (3, [.ref na, .ref ka, .ref fa, .ref sa, .ref la])), (na, .inr (0, [.int (nI m), .int (nI b), .int (nI x), .int (zb fr)])), (fa, .inl (cI, 4096, .inl (zf fc))), (sa, .inl (cI, 4096, .inl (zf ns))), (la, .inl (cI, 4096, .inl (zf li)))]) [0, 4, 1, 2, 3] (by decide) rfl ?_
  refine zx_if_ne (pc := 7) C 11 d_PK_addChild_7 (by decide) (fun c7 => ?_) (fun c7 => ?_)
  · refine zx_aload_n (pc := 11) C d_PK_addChild_11 rfl 0 rfl ?_
    refine zx_get (pc := 12) (ci := 3) (Cn := R_PK) (T := T_PK) (N := 5) (v := .ref na) C zu_PK 0 rfl rfl 0 (by decide) zw_113 rfl rfl d_PK_addChild_12 ?_
    refine zx_getN (pc := 15) (ci := 0) (Cn := R_NU) (T := T_NU) (N := 4) (v := .int (nI x)) C zu_NU 1 rfl rfl 2 (by decide) zw_51 rfl rfl d_PK_addChild_15 ?_
    refine zx_istore_n (pc := 18) C d_PK_addChild_18 rfl (by decide) (lv' := [(3, .int (nI x)), (0, .ref a), (1, .int (nI r)), (2, .int (nI ix))]) rfl ?_
    refine zx_aload_n (pc := 19) C d_PK_addChild_19 rfl 1 rfl ?_
    refine zx_get (pc := 20) (ci := 3) (Cn := R_PK) (T := T_PK) (N := 5) (v := .ref la) C zu_PK 0 rfl rfl 4 (by decide) zw_117 rfl rfl d_PK_addChild_20 ?_
    refine zx_iload_n (pc := 23) C d_PK_addChild_23 rfl 0 rfl ?_
    refine zx_iload_n (pc := 24) C d_PK_addChild_24 rfl 3 rfl ?_
    refine zx_iast (pc := 25) (ws' := [(a, .inr (3, [.ref na, .ref ka, .ref fa, .ref sa, .ref la])), (na, .inr (0, [.int (nI m), .int (nI b), .int (nI x), .int (zb fr)])), (fa, .inl (cI, 4096, .inl (zf fc))), (sa, .inl (cI, 4096, .inl (zf ns))), (la, .inl (cI, 4096, .inl (upd (zf li) x (nI ix))))]) C 4 1 rfl rfl x (b25 c7).1 (b25 c7).2 (by decide) rfl d_PK_addChild_25 ?_
    refine zx_aload_n (pc := 26) C d_PK_addChild_26 rfl 1 rfl ?_
    refine zx_get (pc := 27) (ci := 3) (Cn := R_PK) (T := T_PK) (N := 5) (v := .ref fa) C zu_PK 0 rfl rfl 2 (by decide) zw_115 rfl rfl d_PK_addChild_27 ?_
    refine zx_iload_n (pc := 30) C d_PK_addChild_30 rfl 0 rfl ?_
    refine zx_iconst (pc := 31) C d_PK_addChild_31 (v := (0 : Int32)) (by decide) ?_
    refine zx_iast (pc := 32) (ws' := [(a, .inr (3, [.ref na, .ref ka, .ref fa, .ref sa, .ref la])), (na, .inr (0, [.int (nI m), .int (nI b), .int (nI x), .int (zb fr)])), (fa, .inl (cI, 4096, .inl (upd (zf fc) x (0 : Int32)))), (sa, .inl (cI, 4096, .inl (zf ns))), (la, .inl (cI, 4096, .inl (upd (zf li) x (nI ix))))]) C 2 1 rfl rfl x (b32 c7).1 (b32 c7).2 (by decide) rfl d_PK_addChild_32 ?_
    refine zx_aload_n (pc := 33) C d_PK_addChild_33 rfl 1 rfl ?_
    refine zx_get (pc := 34) (ci := 3) (Cn := R_PK) (T := T_PK) (N := 5) (v := .ref sa) C zu_PK 0 rfl rfl 3 (by decide) zw_116 rfl rfl d_PK_addChild_34 ?_
    refine zx_iload_n (pc := 37) C d_PK_addChild_37 rfl 0 rfl ?_
    refine zx_aload_n (pc := 38) C d_PK_addChild_38 rfl 1 rfl ?_
    refine zx_get (pc := 39) (ci := 3) (Cn := R_PK) (T := T_PK) (N := 5) (v := .ref fa) C zu_PK 0 rfl rfl 2 (by decide) zw_115 rfl rfl d_PK_addChild_39 ?_
    refine zx_iload_n (pc := 42) C d_PK_addChild_42 rfl 2 rfl ?_
    refine zx_iald (pc := 43) C 2 1 rfl rfl r (b43 c7).1 (b43 c7).2 (by decide) d_PK_addChild_43 ?_
    refine zx_iast (pc := 44) (ws' := [(a, .inr (3, [.ref na, .ref ka, .ref fa, .ref sa, .ref la])), (na, .inr (0, [.int (nI m), .int (nI b), .int (nI x), .int (zb fr)])), (fa, .inl (cI, 4096, .inl (upd (zf fc) x (0 : Int32)))), (sa, .inl (cI, 4096, .inl (upd (zf ns) x ((upd (zf fc) x (0 : Int32)) r)))), (la, .inl (cI, 4096, .inl (upd (zf li) x (nI ix))))]) C 3 1 rfl rfl x (b44 c7).1 (b44 c7).2 (by decide) rfl d_PK_addChild_44 ?_
    refine zx_aload_n (pc := 45) C d_PK_addChild_45 rfl 1 rfl ?_
    refine zx_get (pc := 46) (ci := 3) (Cn := R_PK) (T := T_PK) (N := 5) (v := .ref fa) C zu_PK 0 rfl rfl 2 (by decide) zw_115 rfl rfl d_PK_addChild_46 ?_
    refine zx_iload_n (pc := 49) C d_PK_addChild_49 rfl 2 rfl ?_
    refine zx_iload_n (pc := 50) C d_PK_addChild_50 rfl 0 rfl ?_
    refine zx_iast (pc := 51) (ws' := [(a, .inr (3, [.ref na, .ref ka, .ref fa, .ref sa, .ref la])), (na, .inr (0, [.int (nI m), .int (nI b), .int (nI x), .int (zb fr)])), (fa, .inl (cI, 4096, .inl (upd (upd (zf fc) x (0 : Int32)) r (nI x)))), (sa, .inl (cI, 4096, .inl (upd (zf ns) x ((upd (zf fc) x (0 : Int32)) r)))), (la, .inl (cI, 4096, .inl (upd (zf li) x (nI ix))))]) C 2 1 rfl rfl r (b51 c7).1 (b51 c7).2 (by decide) rfl d_PK_addChild_51 ?_
    exact zx_vret (pc := 52) C hr9 hlk9 (Nat.zero_le _) (Nat.zero_le _) d_PK_addChild_52 (r52 c7)
  · exact zx_vret (pc := 10) C hr9 hlk9 (Nat.zero_le _) (Nat.zero_le _) d_PK_addChild_10 (r10 c7)

theorem k_PK_addChild (l : Launch) (D : va_G) (cB cI cL : ClassId) (a na ka fa sa la m b x r ix : Nat) (fr : Bool) (fc ns li : Nat → Nat) (hx : x < 4096) (hr0 : r < 4096) (hrx : fr = false → r ≠ x) : zx_K l zB D zcl (zt cB cI cL) y_PK_addChild b_PK_addChild 4 (none) [] 0 0 (zr 2 0 0) [.ref a, .int (nI r), .int (nI ix)] [(a, .inr (3, [.ref na, .ref ka, .ref fa, .ref sa, .ref la])), (na, .inr (0, [.int (nI m), .int (nI b), .int (nI x), .int (zb fr)])), (fa, .inl (cI, 4096, .inl (zf fc))), (sa, .inl (cI, 4096, .inl (zf ns))), (la, .inl (cI, 4096, .inl (zf li)))] (fun o w => (fr = true ∧ o = .returned none ∧ w = [(a, .inr (3, [.ref na, .ref ka, .ref fa, .ref sa, .ref la])), (na, .inr (0, [.int (nI m), .int (nI b), .int (nI x), .int (zb fr)])), (fa, .inl (cI, 4096, .inl (zf fc))), (sa, .inl (cI, 4096, .inl (zf ns))), (la, .inl (cI, 4096, .inl (zf li)))]) ∨ (fr = false ∧ o = .returned none ∧ w = [(a, .inr (3, [.ref na, .ref ka, .ref fa, .ref sa, .ref la])), (na, .inr (0, [.int (nI m), .int (nI b), .int (nI x), .int (zb fr)])), (fa, .inl (cI, 4096, .inl (zf (updN (updN fc x 0) r x)))), (sa, .inl (cI, 4096, .inl (zf (updN ns x (fc r))))), (la, .inl (cI, 4096, .inl (zf (updN li x ix))))])) := by
  refine zx_K.mk (Nat.le_of_ble_eq_true rfl) (fun p e s mm below meth c9 C hr hlk ht hnm => ?_)
  have hcond : ¬ zb (!fr && decide (x < 4096)) = 0 → fr = false := fun h => by
    cases fr with
    | false => rfl
    | true => exact absurd rfl h
  refine sg_PK_add C (by omega) hr hlk (fun _ => ⟨rfl, hx⟩) (fun _ => ⟨rfl, hx⟩) (fun _ => ⟨rfl, hr0⟩) (fun _ => ⟨rfl, hx⟩) (fun _ => ⟨rfl, hr0⟩) (fun z => ?_) (fun z => ?_)
  · refine Or.inr ⟨hcond z, rfl, ?_⟩
    have e1 : upd (zf fc) x (0 : Int32) = zf (updN fc x 0) := zf_upd fc x 0
    have hq := hrx (hcond z)
    have e2 : zf (updN fc x 0) r = nI (fc r) := by simp [zf, updN, hq]
    rw [e1, e2, zf_upd, zf_upd, zf_upd]
  · refine Or.inl ⟨?_, rfl, rfl⟩
    cases fr with
    | true => rfl
    | false =>
      rw [decide_eq_true hx] at z
      exact absurd z (by decide)
set_option maxRecDepth 100000 in
set_option maxHeartbeats 4000000 in
theorem sg_PK_beg {p : Program} {l : Launch} {e : Env} {s : State} {mi : MethodId} {args : Array Value} {below : List Frame} {meth : Method} {co : Code} {D : va_G} {cB cI cL : ClassId} {w0 : va_W} {kr nr : Nat} {post : Outcome → va_W → Prop} (C : zx_C p s mi args co b_PK_writeBeginning 1 R_PK zB D zcl (zt cB cI cL) (va_A w0 s.heap.size)) {a na ka ab fa sa la m b x n v wb V P : Nat} {fr : Bool} {fc : Nat → Nat} {f : Nat → Int32} (hm : m ≤ 8) (hb : b ≤ 12) (hmb : m + 1 ≤ b) (hz : zS f n v wb V P) (hwb : wb < 8) (hn : n ≤ 16384) (hp : 2 ^ m < 2 ^ b) (hp8 : 2 ^ m ≤ 4096) (hr9 : meth.sig.returnType = none) (hlk9 : meth.locks = false) (hl9 : l.stackTraces = false) (ht9 : co.exceptionTable.toList.map (fun h => (h.startPc, h.endPc, h.handlerPc, h.catchType)) = []) (r44 : ∀ f2 : Nat → Int32, ∀ n2 : Nat, ∀ v2 : Nat, ∀ w2 : Nat, (zS f2 n2 v2 w2 (V + (2 ^ m) * 2 ^ P) (P + b) ∧ w2 < 8 ∧ n2 ≤ 16384) → post (.returned none) [(a, .inr (3, [.ref na, .ref ka, .ref fa, .ref sa, .ref la])), (na, .inr (0, [.int (nI m), .int (nI (m + 1)), .int (nI (2 ^ m + 2)), .int 1])), (ka, .inr (1, [.ref ab, .int (nI n2), .int (nI v2), .int (nI w2)])), (ab, .inl (cB, 16384, .inl f2)), (fa, .inl (cI, 4096, .inl (fun k => if k < 2 ^ m then (0 : Int32) else (zf fc) k)))]) (t18 : ∀ f2 : Nat → Int32, ∀ n2 : Nat, ∀ v2 : Nat, ∀ w2 : Nat, (16384 < (P + b) / 8 ∧ ∀ j, vp_nar .byte (f2 j) = f2 j) → ∀ x9 : Nat, post (.threw x9) [(a, .inr (3, [.ref na, .ref ka, .ref fa, .ref sa, .ref la])), (na, .inr (0, [.int (nI m), .int (nI b), .int (nI x), .int (zb fr)])), (ka, .inr (1, [.ref ab, .int (nI n2), .int (nI v2), .int (nI w2)])), (ab, .inl (cB, 16384, .inl f2)), (fa, .inl (cI, 4096, .inl (zf fc))), (x9, .inr (8, []))]) : zx_At p l e (zr 10 1 6) s mi args below meth co (zx_Q below s D zcl w0 kr nr (zr 10 1 6) post) D zcl (va_A w0 s.heap.size) 1 [(0, .ref a)] [(a, .inr (3, [.ref na, .ref ka, .ref fa, .ref sa, .ref la])), (na, .inr (0, [.int (nI m), .int (nI b), .int (nI x), .int (zb fr)])), (ka, .inr (1, [.ref ab, .int (nI n), .int (nI v), .int (nI wb)])), (ab, .inl (cB, 16384, .inl f)), (fa, .inl (cI, 4096, .inl (zf fc)))] 0 0 0 [] := by
  refine zx_aload_n (pc := 0) C d_PK_writeBeginning_0 rfl 0 rfl ?_
  refine zx_get (pc := 1) (ci := 3) (Cn := R_PK) (T := T_PK) (N := 5) (v := .ref ka) C zu_PK 0 rfl rfl 1 (by decide) zw_114 rfl rfl d_PK_writeBeginning_1 ?_
  refine zx_aload_n (pc := 4) C d_PK_writeBeginning_4 rfl 0 rfl ?_
  refine zx_get (pc := 5) (ci := 3) (Cn := R_PK) (T := T_PK) (N := 5) (v := .ref na) C zu_PK 0 rfl rfl 0 (by decide) zw_113 rfl rfl d_PK_writeBeginning_5 ?_
  refine zx_callV (pc := 8) (ix := 71) (As := []) (b := na) (q0 := 1) (wr := [(a, .inr (3, [.ref na, .ref ka, .ref fa, .ref sa, .ref la])), (ka, .inr (1, [.ref ab, .int (nI n), .int (nI v), .int (nI wb)])), (ab, .inl (cB, 16384, .inl f)), (fa, .inl (cI, 4096, .inl (zf fc)))]) (st := [.ref ka]) C (zx_cw.of (C.w zw_296)) (by decide +kernel) ⟨by decide +kernel, by decide +kernel⟩ zw_294 zw_295 zw_374 rfl rfl rfl rfl rfl (k_NU_beginning l D cB cI cL (zr 0 0 0) na m (nI b) (nI x) (zb fr) (by omega)) rfl [1] [0, 2, 3, 4] rfl rfl (by decide) (by decide) (by decide) (Nat.le_of_ble_eq_true rfl) (Nat.le_of_ble_eq_true rfl) (Nat.le_of_ble_eq_true rfl) (Nat.le_of_ble_eq_true rfl) d_PK_writeBeginning_8 (fun o w1 hp => ?_)
  obtain ⟨rfl, rfl⟩ := hp
  refine zx_ri (k2 := 0) (n2 := 0) rfl rfl ?_
  refine zx_ws (ws' := [(a, .inr (3, [.ref na, .ref ka, .ref fa, .ref sa, .ref la])), (na, .inr (0, [.int (nI m), .int (nI b), .int (nI x), .int (zb fr)])), (ka, .inr (1, [.ref ab, .int (nI n), .int (nI v), .int (nI wb)])), (ab, .inl (cB, 16384, .inl f)), (fa, .inl (cI, 4096, .inl (zf fc)))]) [0, 4, 1, 2, 3] (by decide) rfl ?_
  refine zx_aload_n (pc := 11) C d_PK_writeBeginning_11 rfl 0 rfl ?_
  refine zx_get (pc := 12) (ci := 3) (Cn := R_PK) (T := T_PK) (N := 5) (v := .ref na) C zu_PK 0 rfl rfl 0 (by decide) zw_113 rfl rfl d_PK_writeBeginning_12 ?_
  refine zx_getN (pc := 15) (ci := 0) (Cn := R_NU) (T := T_NU) (N := 4) (v := .int (nI b)) C zu_NU 1 rfl rfl 1 (by decide) zw_47 rfl rfl d_PK_writeBeginning_15 ?_
  refine zx_callV (pc := 18) (ix := 65) (As := [.int (nI (2 ^ m)), .int (nI b)]) (b := ka) (q0 := 2) (wr := [(a, .inr (3, [.ref na, .ref ka, .ref fa, .ref sa, .ref la])), (na, .inr (0, [.int (nI m), .int (nI b), .int (nI x), .int (zb fr)])), (fa, .inl (cI, 4096, .inl (zf fc)))]) (st := []) C (zx_cw.of (C.w zw_378)) (by decide +kernel) ⟨by decide +kernel, by decide +kernel⟩ zw_376 zw_377 zw_375 rfl rfl rfl rfl rfl (k_BS_put l D cB cI cL hl9 ka ab n v wb (2 ^ m) b V P f hz hwb hn hp hb) rfl [2, 3] [0, 1, 4] rfl rfl (by decide) (by decide) (by decide) (Nat.le_of_ble_eq_true rfl) (Nat.le_of_ble_eq_true rfl) (Nat.le_of_ble_eq_true rfl) (Nat.le_of_ble_eq_true rfl) d_PK_writeBeginning_18 (fun o w1 hp => ?_)
  rcases hp with ⟨f2, n2, v2, w2, hc18, rfl, rfl⟩ | ⟨f2, n2, v2, w2, hc18, x9, rfl, rfl⟩
  · refine zx_rv (k2 := 0) (n2 := 0) rfl rfl ?_
    refine zx_ws (ws' := [(a, .inr (3, [.ref na, .ref ka, .ref fa, .ref sa, .ref la])), (na, .inr (0, [.int (nI m), .int (nI b), .int (nI x), .int (zb fr)])), (ka, .inr (1, [.ref ab, .int (nI n2), .int (nI v2), .int (nI w2)])), (ab, .inl (cB, 16384, .inl f2)), (fa, .inl (cI, 4096, .inl (zf fc)))]) [0, 1, 3, 4, 2] (by decide) rfl ?_
    refine zx_aload_n (pc := 21) C d_PK_writeBeginning_21 rfl 0 rfl ?_
    refine zx_get (pc := 22) (ci := 3) (Cn := R_PK) (T := T_PK) (N := 5) (v := .ref na) C zu_PK 0 rfl rfl 0 (by decide) zw_113 rfl rfl d_PK_writeBeginning_22 ?_
    refine zx_callV (pc := 25) (ix := 74) (As := []) (b := na) (q0 := 1) (wr := [(a, .inr (3, [.ref na, .ref ka, .ref fa, .ref sa, .ref la])), (ka, .inr (1, [.ref ab, .int (nI n2), .int (nI v2), .int (nI w2)])), (ab, .inl (cB, 16384, .inl f2)), (fa, .inl (cI, 4096, .inl (zf fc)))]) (st := []) C (zx_cw.of (C.w zw_285)) (by decide +kernel) ⟨by decide +kernel, by decide +kernel⟩ zw_283 zw_284 zw_386 rfl rfl rfl rfl rfl (k_NU_beginAnew l D cB cI cL (zr 0 0 0) na m (nI b) (nI x) (zb fr) (by omega)) rfl [1] [0, 2, 3, 4] rfl rfl (by decide) (by decide) (by decide) (Nat.le_of_ble_eq_true rfl) (Nat.le_of_ble_eq_true rfl) (Nat.le_of_ble_eq_true rfl) (Nat.le_of_ble_eq_true rfl) d_PK_writeBeginning_25 (fun o w1 hp => ?_)
    obtain ⟨rfl, rfl⟩ := hp
    refine zx_rv (k2 := 0) (n2 := 0) rfl rfl ?_
    refine zx_ws (ws' := [(a, .inr (3, [.ref na, .ref ka, .ref fa, .ref sa, .ref la])), (na, .inr (0, [.int (nI m), .int (nI (m + 1)), .int (nI (2 ^ m + 2)), .int 1])), (ka, .inr (1, [.ref ab, .int (nI n2), .int (nI v2), .int (nI w2)])), (ab, .inl (cB, 16384, .inl f2)), (fa, .inl (cI, 4096, .inl (zf fc)))]) [0, 4, 1, 2, 3] (by decide) rfl ?_
    refine zx_aload_n (pc := 28) C d_PK_writeBeginning_28 rfl 0 rfl ?_
    refine zx_get (pc := 29) (ci := 3) (Cn := R_PK) (T := T_PK) (N := 5) (v := .ref fa) C zu_PK 0 rfl rfl 2 (by decide) zw_115 rfl rfl d_PK_writeBeginning_29 ?_
    refine zx_iconst (pc := 32) C d_PK_writeBeginning_32 (v := (0 : Int32)) (by decide) ?_
    refine zx_aload_n (pc := 33) C d_PK_writeBeginning_33 rfl 0 rfl ?_
    refine zx_get (pc := 34) (ci := 3) (Cn := R_PK) (T := T_PK) (N := 5) (v := .ref na) C zu_PK 0 rfl rfl 0 (by decide) zw_113 rfl rfl d_PK_writeBeginning_34 ?_
    refine zx_callV (pc := 37) (ix := 71) (As := []) (b := na) (q0 := 1) (wr := [(a, .inr (3, [.ref na, .ref ka, .ref fa, .ref sa, .ref la])), (ka, .inr (1, [.ref ab, .int (nI n2), .int (nI v2), .int (nI w2)])), (ab, .inl (cB, 16384, .inl f2)), (fa, .inl (cI, 4096, .inl (zf fc)))]) (st := [.int (0 : Int32), .ref fa]) C (zx_cw.of (C.w zw_296)) (by decide +kernel) ⟨by decide +kernel, by decide +kernel⟩ zw_294 zw_295 zw_374 rfl rfl rfl rfl rfl (k_NU_beginning l D cB cI cL (zr 0 0 0) na m (nI (m + 1)) (nI (2 ^ m + 2)) 1 (by omega)) rfl [1] [0, 2, 3, 4] rfl rfl (by decide) (by decide) (by decide) (Nat.le_of_ble_eq_true rfl) (Nat.le_of_ble_eq_true rfl) (Nat.le_of_ble_eq_true rfl) (Nat.le_of_ble_eq_true rfl) d_PK_writeBeginning_37 (fun o w1 hp => ?_)
    obtain ⟨rfl, rfl⟩ := hp
    refine zx_ri (k2 := 0) (n2 := 0) rfl rfl ?_
    refine zx_ws (ws' := [(a, .inr (3, [.ref na, .ref ka, .ref fa, .ref sa, .ref la])), (na, .inr (0, [.int (nI m), .int (nI (m + 1)), .int (nI (2 ^ m + 2)), .int 1])), (ka, .inr (1, [.ref ab, .int (nI n2), .int (nI v2), .int (nI w2)])), (ab, .inl (cB, 16384, .inl f2)), (fa, .inl (cI, 4096, .inl (zf fc)))]) [0, 4, 1, 2, 3] (by decide) rfl ?_
    refine zx_iconst (pc := 40) C d_PK_writeBeginning_40 (v := (0 : Int32)) (by decide) ?_
    refine zx_callS (pc := 41) (ix := 77) (wr := [(a, .inr (3, [.ref na, .ref ka, .ref fa, .ref sa, .ref la])), (na, .inr (0, [.int (nI m), .int (nI (m + 1)), .int (nI (2 ^ m + 2)), .int 1])), (ka, .inr (1, [.ref ab, .int (nI n2), .int (nI v2), .int (nI w2)])), (ab, .inl (cB, 16384, .inl f2))]) (st := []) C (zx_cw.of (C.w zw_389)) (by decide +kernel) ⟨by decide +kernel, by decide +kernel⟩ zw_388 zw_14 zw_387 rfl (k_AR_fill l D cB cI cL fa (2 ^ m) (0 : Int32) (zf fc) hp8) rfl [4] [0, 1, 2, 3] rfl rfl (by decide) (by decide) (by decide) (Nat.le_of_ble_eq_true rfl) (Nat.le_of_ble_eq_true rfl) (Nat.le_of_ble_eq_true rfl) (Nat.le_of_ble_eq_true rfl) d_PK_writeBeginning_41 (fun o w1 hp => ?_)
    obtain ⟨rfl, rfl⟩ := hp
    refine zx_rv (k2 := 0) (n2 := 0) rfl rfl ?_
    refine zx_ws (ws' := [(a, .inr (3, [.ref na, .ref ka, .ref fa, .ref sa, .ref la])), (na, .inr (0, [.int (nI m), .int (nI (m + 1)), .int (nI (2 ^ m + 2)), .int 1])), (ka, .inr (1, [.ref ab, .int (nI n2), .int (nI v2), .int (nI w2)])), (ab, .inl (cB, 16384, .inl f2)), (fa, .inl (cI, 4096, .inl (fun k => if k < 2 ^ m then (0 : Int32) else (zf fc) k)))]) [0, 1, 2, 3, 4] (by decide) rfl ?_
    exact zx_vret (pc := 44) C hr9 hlk9 (Nat.zero_le _) (Nat.zero_le _) d_PK_writeBeginning_44 (r44 f2 n2 v2 w2 hc18)
  · exact zx_rt (k2 := 1) (n2 := 6) rfl rfl (zx_wsT (ws' := [(a, .inr (3, [.ref na, .ref ka, .ref fa, .ref sa, .ref la])), (na, .inr (0, [.int (nI m), .int (nI b), .int (nI x), .int (zb fr)])), (ka, .inr (1, [.ref ab, .int (nI n2), .int (nI v2), .int (nI w2)])), (ab, .inl (cB, 16384, .inl f2)), (fa, .inl (cI, 4096, .inl (zf fc))), (x9, .inr (8, []))]) [0, 1, 3, 4, 2, 5] (by decide) rfl (zx_leave hlk9 (zx_noTab ht9 _) (Nat.le_of_ble_eq_true rfl) (Nat.le_of_ble_eq_true rfl) (t18 f2 n2 v2 w2 hc18 x9)))

/-- what writeBeginning gives -/
def zp_beg (a na ka ab fa sa la m b x V P : Nat) (fr : Bool) (fc : Nat → Nat) (cB cI : ClassId) : Outcome → va_W → Prop := fun o w =>
  (∃ (f : Nat → Int32) (n v wb : Nat), (zS f n v wb (V + 2 ^ m * 2 ^ P) (P + b) ∧ wb < 8 ∧ n ≤ 16384) ∧ o = .returned none ∧ w = [(a, .inr (3, [.ref na, .ref ka, .ref fa, .ref sa, .ref la])), (na, .inr (0, [.int (nI m), .int (nI (m + 1)), .int (nI (2 ^ m + 2)), .int 1])), (ka, .inr (1, [.ref ab, .int (nI n), .int (nI v), .int (nI wb)])), (ab, .inl (cB, 16384, .inl f)), (fa, .inl (cI, 4096, .inl (zf (zk_clr m fc))))]) ∨
  (∃ (f : Nat → Int32) (n v wb : Nat), (16384 < (P + b) / 8 ∧ ∀ j, vp_nar .byte (f j) = f j) ∧ ∃ x0 : Nat, o = .threw x0 ∧ w = [(a, .inr (3, [.ref na, .ref ka, .ref fa, .ref sa, .ref la])), (na, .inr (0, [.int (nI m), .int (nI b), .int (nI x), .int (zb fr)])), (ka, .inr (1, [.ref ab, .int (nI n), .int (nI v), .int (nI wb)])), (ab, .inl (cB, 16384, .inl f)), (fa, .inl (cI, 4096, .inl (zf fc))), (x0, .inr (8, []))])
theorem k_PK_writeBeginning (l : Launch) (D : va_G) (cB cI cL : ClassId) (hl : l.stackTraces = false) (a na ka ab fa sa la m b x n v wb V P : Nat) (fr : Bool) (fc : Nat → Nat) (f : Nat → Int32) (hm : m ≤ 8) (hb : b ≤ 12) (hmb : m + 1 ≤ b) (hz : zS f n v wb V P) (hwb : wb < 8) (hn : n ≤ 16384) : zx_K l zB D zcl (zt cB cI cL) y_PK_writeBeginning b_PK_writeBeginning 1 (none) [] 0 0 (zr 10 1 6) [.ref a] [(a, .inr (3, [.ref na, .ref ka, .ref fa, .ref sa, .ref la])), (na, .inr (0, [.int (nI m), .int (nI b), .int (nI x), .int (zb fr)])), (ka, .inr (1, [.ref ab, .int (nI n), .int (nI v), .int (nI wb)])), (ab, .inl (cB, 16384, .inl f)), (fa, .inl (cI, 4096, .inl (zf fc)))] (zp_beg a na ka ab fa sa la m b x V P fr fc cB cI) := by
  refine zx_K.mk (Nat.le_of_ble_eq_true rfl) (fun p e s mm below meth c9 C hr hlk ht hnm => ?_)
  have hp8 := zp_pow8 hm
  have hp : 2 ^ m < 2 ^ b := Nat.pow_lt_pow_right (by decide) (by omega)
  exact sg_PK_beg C hm hb hmb hz hwb hn hp (by omega) hr hlk hl ht (fun f2 n2 v2 w2 h => Or.inl ⟨f2, n2, v2, w2, h, rfl, by rw [zk_clr_f]⟩) (fun f2 n2 v2 w2 h x0 => Or.inr ⟨f2, n2, v2, w2, h, x0, rfl, rfl⟩)
set_option maxRecDepth 100000 in
set_option maxHeartbeats 4000000 in
theorem sg_PK_row {p : Program} {l : Launch} {e : Env} {s : State} {mi : MethodId} {args : Array Value} {below : List Frame} {meth : Method} {co : Code} {D : va_G} {cB cI cL : ClassId} {w0 : va_W} {kr nr : Nat} {post : Outcome → va_W → Prop} (C : zx_C p s mi args co b_PK_writeRow 2 R_PK zB D zcl (zt cB cI cL) (va_A w0 s.heap.size)) {r a na ka ab fa sa la m b x n v wb V P : Nat} {fr : Bool} {fc : Nat → Nat} {f : Nat → Int32} (hm : m ≤ 8) (hb : b ≤ 12) (hmb : m + 1 ≤ b) (hz : zS f n v wb V P) (hwb : wb < 8) (hn : n ≤ 16384) (hx : x ≤ 4096) (hx1 : zn_x x fr < 2 ^ 31) (hr0 : r < 2 ^ b) (hr9 : meth.sig.returnType = none) (hlk9 : meth.locks = false) (hl9 : l.stackTraces = false) (ht9 : co.exceptionTable.toList.map (fun h => (h.startPc, h.endPc, h.handlerPc, h.catchType)) = []) (r36 : ∀ f2 : Nat → Int32, ∀ n2 : Nat, ∀ v2 : Nat, ∀ w2 : Nat, (zS f2 n2 v2 w2 (V + r * 2 ^ P) (P + b) ∧ w2 < 8 ∧ n2 ≤ 16384) → ((zb (decide (4096 ≤ zn_x x fr))) = 0) → post (.returned none) [(a, .inr (3, [.ref na, .ref ka, .ref fa, .ref sa, .ref la])), (na, .inr (0, [.int (nI m), .int (nI (zn_b b x fr)), .int (nI (zn_x x fr)), .int 0])), (ka, .inr (1, [.ref ab, .int (nI n2), .int (nI v2), .int (nI w2)])), (ab, .inl (cB, 16384, .inl f2)), (fa, .inl (cI, 4096, .inl (zf fc)))]) (k33 : ∀ f2 : Nat → Int32, ∀ n2 : Nat, ∀ v2 : Nat, ∀ w2 : Nat, (zS f2 n2 v2 w2 (V + r * 2 ^ P) (P + b) ∧ w2 < 8 ∧ n2 ≤ 16384) → (¬ (zb (decide (4096 ≤ zn_x x fr))) = 0) → zx_At p l e (zr 11 1 6) s mi args below meth co (zx_Q below s D zcl w0 kr nr (zr 11 1 6) post) D zcl (va_A w0 s.heap.size) 2 [(0, .ref a), (1, .int (nI r))] [(a, .inr (3, [.ref na, .ref ka, .ref fa, .ref sa, .ref la])), (na, .inr (0, [.int (nI m), .int (nI (zn_b b x fr)), .int (nI (zn_x x fr)), .int 0])), (ka, .inr (1, [.ref ab, .int (nI n2), .int (nI v2), .int (nI w2)])), (ab, .inl (cB, 16384, .inl f2)), (fa, .inl (cI, 4096, .inl (zf fc)))] 0 0 33 [.ref a]) (t12 : ∀ f2 : Nat → Int32, ∀ n2 : Nat, ∀ v2 : Nat, ∀ w2 : Nat, (16384 < (P + b) / 8 ∧ ∀ j, vp_nar .byte (f2 j) = f2 j) → ∀ x9 : Nat, post (.threw x9) [(a, .inr (3, [.ref na, .ref ka, .ref fa, .ref sa, .ref la])), (na, .inr (0, [.int (nI m), .int (nI b), .int (nI x), .int (zb fr)])), (ka, .inr (1, [.ref ab, .int (nI n2), .int (nI v2), .int (nI w2)])), (ab, .inl (cB, 16384, .inl f2)), (fa, .inl (cI, 4096, .inl (zf fc))), (x9, .inr (8, []))]) : zx_At p l e (zr 11 1 6) s mi args below meth co (zx_Q below s D zcl w0 kr nr (zr 11 1 6) post) D zcl (va_A w0 s.heap.size) 2 [(0, .ref a), (1, .int (nI r))] [(a, .inr (3, [.ref na, .ref ka, .ref fa, .ref sa, .ref la])), (na, .inr (0, [.int (nI m), .int (nI b), .int (nI x), .int (zb fr)])), (ka, .inr (1, [.ref ab, .int (nI n), .int (nI v), .int (nI wb)])), (ab, .inl (cB, 16384, .inl f)), (fa, .inl (cI, 4096, .inl (zf fc)))] 0 0 0 [] := by
  refine zx_aload_n (pc := 0) C d_PK_writeRow_0 rfl 0 rfl ?_
  refine zx_get (pc := 1) (ci := 3) (Cn := R_PK) (T := T_PK) (N := 5) (v := .ref ka) C zu_PK 0 rfl rfl 1 (by decide) zw_114 rfl rfl d_PK_writeRow_1 ?_
  refine zx_iload_n (pc := 4) C d_PK_writeRow_4 rfl 1 rfl ?_
  refine zx_aload_n (pc := 5) C d_PK_writeRow_5 rfl 0 rfl ?_
  refine zx_get (pc := 6) (ci := 3) (Cn := R_PK) (T := T_PK) (N := 5) (v := .ref na) C zu_PK 0 rfl rfl 0 (by decide) zw_113 rfl rfl d_PK_writeRow_6 ?_
  refine zx_getN (pc := 9) (ci := 0) (Cn := R_NU) (T := T_NU) (N := 4) (v := .int (nI b)) C zu_NU 1 rfl rfl 1 (by decide) zw_47 rfl rfl d_PK_writeRow_9 ?_
  refine zx_callV (pc := 12) (ix := 65) (As := [.int (nI r), .int (nI b)]) (b := ka) (q0 := 2) (wr := [(a, .inr (3, [.ref na, .ref ka, .ref fa, .ref sa, .ref la])), (na, .inr (0, [.int (nI m), .int (nI b), .int (nI x), .int (zb fr)])), (fa, .inl (cI, 4096, .inl (zf fc)))]) (st := []) C (zx_cw.of (C.w zw_378)) (by decide +kernel) ⟨by decide +kernel, by decide +kernel⟩ zw_376 zw_377 zw_375 rfl rfl rfl rfl rfl (k_BS_put l D cB cI cL hl9 ka ab n v wb r b V P f hz hwb hn hr0 hb) rfl [2, 3] [0, 1, 4] rfl rfl (by decide) (by decide) (by decide) (Nat.le_of_ble_eq_true rfl) (Nat.le_of_ble_eq_true rfl) (Nat.le_of_ble_eq_true rfl) (Nat.le_of_ble_eq_true rfl) d_PK_writeRow_12 (fun o w1 hp => ?_)
  rcases hp with ⟨f2, n2, v2, w2, hc12, rfl, rfl⟩ | ⟨f2, n2, v2, w2, hc12, x9, rfl, rfl⟩
  · refine zx_rv (k2 := 0) (n2 := 0) rfl rfl ?_
    refine zx_ws (ws' := [(a, .inr (3, [.ref na, .ref ka, .ref fa, .ref sa, .ref la])), (na, .inr (0, [.int (nI m), .int (nI b), .int (nI x), .int (zb fr)])), (ka, .inr (1, [.ref ab, .int (nI n2), .int (nI v2), .int (nI w2)])), (ab, .inl (cB, 16384, .inl f2)), (fa, .inl (cI, 4096, .inl (zf fc)))]) [0, 1, 3, 4, 2] (by decide) rfl ?_
    refine zx_aload_n (pc := 15) C d_PK_writeRow_15 rfl 0 rfl ?_
    refine zx_get (pc := 16) (ci := 3) (Cn := R_PK) (T := T_PK) (N := 5) (v := .ref na) C zu_PK 0 rfl rfl 0 (by decide) zw_113 rfl rfl d_PK_writeRow_16 ?_
    refine zx_callV (pc := 19) (ix := 83) (As := []) (b := na) (q0 := 1) (wr := [(a, .inr (3, [.ref na, .ref ka, .ref fa, .ref sa, .ref la])), (ka, .inr (1, [.ref ab, .int (nI n2), .int (nI v2), .int (nI w2)])), (ab, .inl (cB, 16384, .inl f2)), (fa, .inl (cI, 4096, .inl (zf fc)))]) (st := []) C (zx_cw.of (C.w zw_340)) (by decide +kernel) ⟨by decide +kernel, by decide +kernel⟩ zw_338 zw_339 zw_660 rfl rfl rfl rfl rfl (k_NU_passCode l D cB cI cL na b x (nI m) fr (by omega) hx) rfl [1] [0, 2, 3, 4] rfl rfl (by decide) (by decide) (by decide) (Nat.le_of_ble_eq_true rfl) (Nat.le_of_ble_eq_true rfl) (Nat.le_of_ble_eq_true rfl) (Nat.le_of_ble_eq_true rfl) d_PK_writeRow_19 (fun o w1 hp => ?_)
    obtain ⟨rfl, rfl⟩ := hp
    refine zx_rv (k2 := 0) (n2 := 0) rfl rfl ?_
    refine zx_ws (ws' := [(a, .inr (3, [.ref na, .ref ka, .ref fa, .ref sa, .ref la])), (na, .inr (0, [.int (nI m), .int (nI (zn_b b x fr)), .int (nI (zn_x x fr)), .int 0])), (ka, .inr (1, [.ref ab, .int (nI n2), .int (nI v2), .int (nI w2)])), (ab, .inl (cB, 16384, .inl f2)), (fa, .inl (cI, 4096, .inl (zf fc)))]) [0, 4, 1, 2, 3] (by decide) rfl ?_
    refine zx_aload_n (pc := 22) C d_PK_writeRow_22 rfl 0 rfl ?_
    refine zx_get (pc := 23) (ci := 3) (Cn := R_PK) (T := T_PK) (N := 5) (v := .ref na) C zu_PK 0 rfl rfl 0 (by decide) zw_113 rfl rfl d_PK_writeRow_23 ?_
    refine zx_callV (pc := 26) (ix := 86) (As := []) (b := na) (q0 := 1) (wr := [(a, .inr (3, [.ref na, .ref ka, .ref fa, .ref sa, .ref la])), (ka, .inr (1, [.ref ab, .int (nI n2), .int (nI v2), .int (nI w2)])), (ab, .inl (cB, 16384, .inl f2)), (fa, .inl (cI, 4096, .inl (zf fc)))]) (st := []) C (zx_cw.of (C.w zw_309)) (by decide +kernel) ⟨by decide +kernel, by decide +kernel⟩ zw_307 zw_308 zw_661 rfl rfl rfl rfl rfl (k_NU_isFull l D cB cI cL (zr 0 0 0) na (zn_x x fr) (nI m) (nI (zn_b b x fr)) 0 hx1) rfl [1] [0, 2, 3, 4] rfl rfl (by decide) (by decide) (by decide) (Nat.le_of_ble_eq_true rfl) (Nat.le_of_ble_eq_true rfl) (Nat.le_of_ble_eq_true rfl) (Nat.le_of_ble_eq_true rfl) d_PK_writeRow_26 (fun o w1 hp => ?_)
    obtain ⟨rfl, rfl⟩ := hp
    refine zx_ri (k2 := 0) (n2 := 0) rfl rfl ?_
    refine zx_ws (ws' := [(a, .inr (3, [.ref na, .ref ka, .ref fa, .ref sa, .ref la])), (na, .inr (0, [.int (nI m), .int (nI (zn_b b x fr)), .int (nI (zn_x x fr)), .int 0])), (ka, .inr (1, [.ref ab, .int (nI n2), .int (nI v2), .int (nI w2)])), (ab, .inl (cB, 16384, .inl f2)), (fa, .inl (cI, 4096, .inl (zf fc)))]) [0, 4, 1, 2, 3] (by decide) rfl ?_
    refine zx_if_eq (pc := 29) C 36 d_PK_writeRow_29 (by decide) (fun c29 => ?_) (fun c29 => ?_)
    · exact zx_vret (pc := 36) C hr9 hlk9 (Nat.zero_le _) (Nat.zero_le _) d_PK_writeRow_36 (r36 f2 n2 v2 w2 hc12 c29)
    · refine zx_aload_n (pc := 32) C d_PK_writeRow_32 rfl 0 rfl ?_
      exact k33 f2 n2 v2 w2 hc12 c29
  · exact zx_rt (k2 := 1) (n2 := 6) rfl rfl (zx_wsT (ws' := [(a, .inr (3, [.ref na, .ref ka, .ref fa, .ref sa, .ref la])), (na, .inr (0, [.int (nI m), .int (nI b), .int (nI x), .int (zb fr)])), (ka, .inr (1, [.ref ab, .int (nI n2), .int (nI v2), .int (nI w2)])), (ab, .inl (cB, 16384, .inl f2)), (fa, .inl (cI, 4096, .inl (zf fc))), (x9, .inr (8, []))]) [0, 1, 3, 4, 2, 5] (by decide) rfl (zx_leave hlk9 (zx_noTab ht9 _) (Nat.le_of_ble_eq_true rfl) (Nat.le_of_ble_eq_true rfl) (t12 f2 n2 v2 w2 hc12 x9)))

set_option maxRecDepth 100000 in
set_option maxHeartbeats 4000000 in
theorem sg_PK_row33 {p : Program} {l : Launch} {e : Env} {s : State} {mi : MethodId} {args : Array Value} {below : List Frame} {meth : Method} {co : Code} {D : va_G} {cB cI cL : ClassId} {w0 : va_W} {kr nr : Nat} {post : Outcome → va_W → Prop} (C : zx_C p s mi args co b_PK_writeRow 2 R_PK zB D zcl (zt cB cI cL) (va_A w0 s.heap.size)) {a na ka ab fa sa la m b x n v wb V P : Nat} {r9 : Int32} {fr : Bool} {fc : Nat → Nat} {f : Nat → Int32} (hm : m ≤ 8) (hb : b ≤ 12) (hmb : m + 1 ≤ b) (hz : zS f n v wb V P) (hwb : wb < 8) (hn : n ≤ 16384) (hr9 : meth.sig.returnType = none) (hlk9 : meth.locks = false) (hl9 : l.stackTraces = false) (ht9 : co.exceptionTable.toList.map (fun h => (h.startPc, h.endPc, h.handlerPc, h.catchType)) = []) (r36 : ∀ f2 : Nat → Int32, ∀ n2 : Nat, ∀ v2 : Nat, ∀ w2 : Nat, (zS f2 n2 v2 w2 (V + 2 ^ m * 2 ^ P) (P + b) ∧ w2 < 8 ∧ n2 ≤ 16384) → post (.returned none) [(a, .inr (3, [.ref na, .ref ka, .ref fa, .ref sa, .ref la])), (na, .inr (0, [.int (nI m), .int (nI (m + 1)), .int (nI (2 ^ m + 2)), .int 1])), (ka, .inr (1, [.ref ab, .int (nI n2), .int (nI v2), .int (nI w2)])), (ab, .inl (cB, 16384, .inl f2)), (fa, .inl (cI, 4096, .inl (zf (zk_clr m fc))))]) (t33 : ∀ f2 : Nat → Int32, ∀ n2 : Nat, ∀ v2 : Nat, ∀ w2 : Nat, (16384 < (P + b) / 8 ∧ ∀ j, vp_nar .byte (f2 j) = f2 j) → ∀ x9 : Nat, post (.threw x9) [(a, .inr (3, [.ref na, .ref ka, .ref fa, .ref sa, .ref la])), (na, .inr (0, [.int (nI m), .int (nI b), .int (nI x), .int (zb fr)])), (ka, .inr (1, [.ref ab, .int (nI n2), .int (nI v2), .int (nI w2)])), (ab, .inl (cB, 16384, .inl f2)), (fa, .inl (cI, 4096, .inl (zf fc))), (x9, .inr (8, []))]) : zx_At p l e (zr 11 1 6) s mi args below meth co (zx_Q below s D zcl w0 kr nr (zr 11 1 6) post) D zcl (va_A w0 s.heap.size) 2 [(0, .ref a), (1, .int r9)] [(a, .inr (3, [.ref na, .ref ka, .ref fa, .ref sa, .ref la])), (na, .inr (0, [.int (nI m), .int (nI b), .int (nI x), .int (zb fr)])), (ka, .inr (1, [.ref ab, .int (nI n), .int (nI v), .int (nI wb)])), (ab, .inl (cB, 16384, .inl f)), (fa, .inl (cI, 4096, .inl (zf fc)))] 0 0 33 [.ref a] := by
  refine zx_callV (pc := 33) (ix := 43) (As := []) (b := a) (q0 := 0) (wr := []) (st := []) C (zx_cw.of (C.w zw_373)) (by decide +kernel) ⟨by decide +kernel, by decide +kernel⟩ zw_372 zs_PK_writeBeginning zw_370 rfl rfl rfl rfl rfl (k_PK_writeBeginning l D cB cI cL hl9 a na ka ab fa sa la m b x n v wb V P fr fc f hm hb hmb hz hwb hn) rfl [0, 1, 2, 3, 4] [] rfl rfl (by decide) (by decide) (by decide) (Nat.le_of_ble_eq_true rfl) (Nat.le_of_ble_eq_true rfl) (Nat.le_of_ble_eq_true rfl) (Nat.le_of_ble_eq_true rfl) d_PK_writeRow_33 (fun o w1 hp => ?_)
  rcases hp with ⟨f2, n2, v2, w2, hc33, rfl, rfl⟩ | ⟨f2, n2, v2, w2, hc33, x9, rfl, rfl⟩
  · refine zx_rv (k2 := 0) (n2 := 0) rfl rfl ?_
    refine zx_ws (ws' := [(a, .inr (3, [.ref na, .ref ka, .ref fa, .ref sa, .ref la])), (na, .inr (0, [.int (nI m), .int (nI (m + 1)), .int (nI (2 ^ m + 2)), .int 1])), (ka, .inr (1, [.ref ab, .int (nI n2), .int (nI v2), .int (nI w2)])), (ab, .inl (cB, 16384, .inl f2)), (fa, .inl (cI, 4096, .inl (zf (zk_clr m fc))))]) [0, 1, 2, 3, 4] (by decide) rfl ?_
    exact zx_vret (pc := 36) C hr9 hlk9 (Nat.zero_le _) (Nat.zero_le _) d_PK_writeRow_36 (r36 f2 n2 v2 w2 hc33)
  · exact zx_rt (k2 := 1) (n2 := 6) rfl rfl (zx_leave hlk9 (zx_noTab ht9 _) (Nat.le_of_ble_eq_true rfl) (Nat.le_of_ble_eq_true rfl) (t33 f2 n2 v2 w2 hc33 x9))

/-- the writer's numbers behind a row's code: value, bits so far, bits of a code, next row, first -/
abbrev ZE : Type := Nat × Nat × Nat × Nat × Bool
def ze_row (m r V P b x : Nat) (fr : Bool) : ZE := if 4096 ≤ zn_x x fr then (V + r * 2 ^ P + 2 ^ m * 2 ^ (P + b), P + b + zn_b b x fr, m + 1, 2 ^ m + 2, true) else (V + r * 2 ^ P, P + b, zn_b b x fr, zn_x x fr, false)
def ze_fc (m x : Nat) (fr : Bool) (fc : Nat → Nat) : Nat → Nat := if 4096 ≤ zn_x x fr then zk_clr m fc else fc
/-- what writeRow gives -/
def zp_row (a na ka ab fa sa la m : Nat) (E : ZE) (fc : Nat → Nat) (cB cI : ClassId) : Outcome → va_W → Prop := fun o w =>
  (∃ (f : Nat → Int32) (n v wb : Nat), (zS f n v wb E.1 E.2.1 ∧ wb < 8 ∧ n ≤ 16384) ∧ o = .returned none ∧ w = [(a, .inr (3, [.ref na, .ref ka, .ref fa, .ref sa, .ref la])), (na, .inr (0, [.int (nI m), .int (nI E.2.2.1), .int (nI E.2.2.2.1), .int (zb E.2.2.2.2)])), (ka, .inr (1, [.ref ab, .int (nI n), .int (nI v), .int (nI wb)])), (ab, .inl (cB, 16384, .inl f)), (fa, .inl (cI, 4096, .inl (zf fc)))]) ∨
  (∃ (f : Nat → Int32) (n v wb : Nat) (b9 x9 f9 : Int32) (fc : Nat → Nat), (16384 < E.2.1 / 8 ∧ (∀ j, fc j < 4096) ∧ ∀ j, vp_nar .byte (f j) = f j) ∧ ∃ x0 : Nat, o = .threw x0 ∧ w = [(a, .inr (3, [.ref na, .ref ka, .ref fa, .ref sa, .ref la])), (na, .inr (0, [.int (nI m), .int b9, .int x9, .int f9])), (ka, .inr (1, [.ref ab, .int (nI n), .int (nI v), .int (nI wb)])), (ab, .inl (cB, 16384, .inl f)), (fa, .inl (cI, 4096, .inl (zf fc))), (x0, .inr (8, []))])
set_option maxHeartbeats 1000000 in
theorem k_PK_writeRow (l : Launch) (D : va_G) (cB cI cL : ClassId) (hl : l.stackTraces = false) (r a na ka ab fa sa la m b x n v wb V P : Nat) (fr : Bool) (fc : Nat → Nat) (f : Nat → Int32) (hm : m ≤ 8) (hb : b ≤ 12) (hmb : m + 1 ≤ b) (hx : x ≤ 4096) (hr0 : r < 2 ^ b) (hfc : ∀ j, fc j < 4096) (hz : zS f n v wb V P) (hwb : wb < 8) (hn : n ≤ 16384) : zx_K l zB D zcl (zt cB cI cL) y_PK_writeRow b_PK_writeRow 2 (none) [] 0 0 (zr 11 1 6) [.ref a, .int (nI r)] [(a, .inr (3, [.ref na, .ref ka, .ref fa, .ref sa, .ref la])), (na, .inr (0, [.int (nI m), .int (nI b), .int (nI x), .int (zb fr)])), (ka, .inr (1, [.ref ab, .int (nI n), .int (nI v), .int (nI wb)])), (ab, .inl (cB, 16384, .inl f)), (fa, .inl (cI, 4096, .inl (zf fc)))] (zp_row a na ka ab fa sa la m (ze_row m r V P b x fr) (ze_fc m x fr fc) cB cI) := by
  refine zx_K.mk (Nat.le_of_ble_eq_true rfl) (fun p e s mm below meth c9 C hr hlk ht hnm => ?_)
  have a1 := zn_x_le (fr := fr) hx
  have a2 := zn_b_le (x := x) (fr := fr) hb
  refine sg_PK_row C hm hb hmb hz hwb hn hx (by omega) hr0 hr hlk hl ht (fun f2 n2 v2 w2 h z => ?_) (fun f2 n2 v2 w2 h z => ?_) (fun f2 n2 v2 w2 h x0 => ?_)
  · have q := zb_d.mp z
    rw [show ze_row m r V P b x fr = (V + r * 2 ^ P, P + b, zn_b b x fr, zn_x x fr, false) from if_neg q, show ze_fc m x fr fc = fc from if_neg q]
    exact Or.inl ⟨f2, n2, v2, w2, h, rfl, rfl⟩
  · have q : 4096 ≤ zn_x x fr := by
      by_cases y : 4096 ≤ zn_x x fr
      · exact y
      · exact absurd (zb_d.mpr y) z
    rw [show ze_row m r V P b x fr = (V + r * 2 ^ P + 2 ^ m * 2 ^ (P + b), P + b + zn_b b x fr, m + 1, 2 ^ m + 2, true) from if_pos q, show ze_fc m x fr fc = zk_clr m fc from if_pos q]
    exact sg_PK_row33 (fr := false) C hm a2.2 (by omega) h.1 h.2.1 h.2.2 hr hlk hl ht (fun f3 n3 v3 w3 h3 => Or.inl ⟨f3, n3, v3, w3, h3, rfl, rfl⟩) (fun f3 n3 v3 w3 h3 x0 => Or.inr ⟨f3, n3, v3, w3, _, _, _, fc, ⟨h3.1, hfc, h3.2⟩, x0, rfl, rfl⟩)
  · refine Or.inr ⟨f2, n2, v2, w2, _, _, _, fc, ⟨?_, hfc, h.2⟩, x0, rfl, rfl⟩
    unfold ze_row
    by_cases q : 4096 ≤ zn_x x fr
    · rw [if_pos q]
      have h1 := h.1
      show 16384 < (P + b + zn_b b x fr) / 8
      omega
    · rw [if_neg q]
      exact h.1
end
section
/-- the siblings from c on are the list -/
def zl (ns : Nat → Nat) : Nat → List Nat → Prop
  | c, [] => c = 0
  | c, d :: L => c = d ∧ d ≠ 0 ∧ zl ns (ns d) L
def zdec : Nat → List Nat → Prop
  | _, [] => True
  | t, c :: L => c < t ∧ zdec c L
def zfd (li : Nat → Nat) (ix : Nat) : List Nat → Nat
  | [] => 0
  | c :: L => if li c = ix then c else zfd li ix L
theorem zdec_len : ∀ (L : List Nat) (t : Nat), zdec t L → L.length ≤ t
  | [], t, _ => Nat.zero_le _
  | c :: L, t, h => by
    have := zdec_len L c h.2
    have h1 := h.1
    simp only [List.length_cons]
    omega
theorem zdec_lt : ∀ (L : List Nat) (t : Nat), zdec t L → ∀ c ∈ L, c < t
  | [], t, _, c, h => by cases h
  | d :: L, t, h, c, hc => by
    rcases List.mem_cons.mp hc with rfl | hc
    · exact h.1
    · exact Nat.lt_trans (zdec_lt L d h.2 c hc) h.1
theorem zk_find_eq (ns li : Nat → Nat) (ix : Nat) : ∀ (L : List Nat) (d c : Nat), zl ns c L → L.length ≤ d → zk_find ns li ix d c = zfd li ix L
  | [], d, c, h, hd => by
    cases d with
    | zero => rfl
    | succ d => rw [zk_find, if_pos (show c = 0 from h)]; rfl
  | e :: L, d, c, h, hd => by
    obtain ⟨h1, h2, h3⟩ := h
    cases d with
    | zero => simp at hd
    | succ d =>
      subst h1
      rw [zk_find, if_neg h2, zfd]
      by_cases q : li c = ix
      · rw [if_pos q, if_pos q]
      · rw [if_neg q, if_neg q]
        exact zk_find_eq ns li ix L d (ns c) h3 (by simp at hd; omega)
theorem zl_upd {ns : Nat → Nat} {x v : Nat} : ∀ (L : List Nat) (c : Nat), (∀ e ∈ L, e ≠ x) → zl ns c L → zl (updN ns x v) c L
  | [], c, _, h => h
  | e :: L, c, hx, h => by
    refine ⟨h.1, h.2.1, ?_⟩
    have h1 : updN ns x v e = ns e := by simp [updN, hx e List.mem_cons_self]
    rw [h1]
    exact zl_upd L (ns e) (fun y hy => hx y (List.mem_cons_of_mem _ hy)) h.2.2
theorem zfd_upd {li : Nat → Nat} {x v ix : Nat} : ∀ (L : List Nat), (∀ e ∈ L, e ≠ x) → zfd (updN li x v) ix L = zfd li ix L
  | [], _ => rfl
  | e :: L, hx => by
    have h1 : updN li x v e = li e := by simp [updN, hx e List.mem_cons_self]
    rw [zfd, zfd, h1, zfd_upd L (fun y hy => hx y (List.mem_cons_of_mem _ hy))]
/-- a row that there is -/
def zval (m top r : Nat) : Prop := r < 2 ^ m ∨ (2 ^ m + 2 ≤ r ∧ r < top)
/-- the tree holds the map ch -/
def zt_ok (m top : Nat) (fc ns li : Nat → Nat) (ch : Nat → Nat → Nat) : Prop := ∀ r, zval m top r → ∃ L : List Nat, zl ns (fc r) L ∧ zdec top L ∧ (∀ c ∈ L, 2 ^ m + 2 ≤ c) ∧ ∀ ix, ch r ix = zfd li ix L
theorem zt_find {m top : Nat} {fc ns li : Nat → Nat} {ch : Nat → Nat → Nat} (h : zt_ok m top fc ns li ch) (ht : top ≤ 4096) {r : Nat} (hr : zval m top r) (ix : Nat) : zk_find ns li ix 4096 (fc r) = ch r ix := by
  obtain ⟨L, h1, h2, h3, h4⟩ := h r hr
  have h5 := zdec_len L top h2
  rw [h4, zk_find_eq ns li ix L 4096 (fc r) h1 (by omega)]
theorem zfd_mem {li : Nat → Nat} {ix : Nat} : ∀ (L : List Nat), zfd li ix L = 0 ∨ zfd li ix L ∈ L
  | [] => Or.inl rfl
  | c :: L => by
    rw [zfd]
    by_cases q : li c = ix
    · rw [if_pos q]; exact Or.inr List.mem_cons_self
    · rw [if_neg q]
      rcases zfd_mem (li := li) (ix := ix) L with h | h
      · exact Or.inl h
      · exact Or.inr (List.mem_cons_of_mem _ h)
theorem zt_val {m top : Nat} {fc ns li : Nat → Nat} {ch : Nat → Nat → Nat} (h : zt_ok m top fc ns li ch) {r : Nat} (hr : zval m top r) {ix : Nat} (hc : ch r ix ≠ 0) : zval m top (ch r ix) := by
  obtain ⟨L, h1, h2, h3, h4⟩ := h r hr
  rw [h4] at hc ⊢
  rcases zfd_mem (li := li) (ix := ix) L with q | q
  · exact absurd q hc
  · exact Or.inr ⟨h3 _ q, zdec_lt L top h2 _ q⟩
theorem zt_clr (m : Nat) (fc ns li : Nat → Nat) : zt_ok m (2 ^ m + 2) (zk_clr m fc) ns li (fun _ _ => 0) := by
  intro r hr
  rcases hr with hr | hr
  · exact ⟨[], by show zk_clr m fc r = 0; simp [zk_clr, hr], trivial, (fun c h => by cases h), fun ix => rfl⟩
  · omega
def zk_add (ch : Nat → Nat → Nat) (r ix x : Nat) : Nat → Nat → Nat := fun r' i' => if r' = r ∧ i' = ix then x else ch r' i'
theorem zt_add {m x : Nat} {fc ns li : Nat → Nat} {ch : Nat → Nat → Nat} (h : zt_ok m x fc ns li ch) (hx : 2 ^ m + 2 ≤ x) (h0 : ∀ i, ch x i = 0) {r ix : Nat} (hr : zval m x r) : zt_ok m (x + 1) (updN (updN fc x 0) r x) (updN ns x (fc r)) (updN li x ix) (zk_add ch r ix x) := by
  have hrx : r ≠ x := by
    intro e
    rcases hr with q | q
    · omega
    · omega
  intro r' hr'
  have mono : ∀ (L : List Nat), zdec x L → zdec (x + 1) L := fun L hL => by
    cases L with
    | nil => trivial
    | cons c L => exact ⟨by have := hL.1; omega, hL.2⟩
  by_cases q1 : r' = r
  · subst q1
    obtain ⟨L, h1, h2, h3, h4⟩ := h r' hr
    have hne : ∀ e ∈ L, e ≠ x := fun e he => Nat.ne_of_lt (zdec_lt L x h2 e he)
    refine ⟨x :: L, ⟨by simp [updN], Nat.ne_of_gt (Nat.lt_of_lt_of_le (Nat.succ_pos (2 ^ m + 1)) hx), ?_⟩, ⟨Nat.lt_succ_self x, h2⟩, fun c hc => ?_, fun i => ?_⟩
    · rw [show updN ns x (fc r') x = fc r' by simp [updN]]
      exact zl_upd L (fc r') hne h1
    · rcases List.mem_cons.mp hc with rfl | hc
      · exact hx
      · exact h3 c hc
    · rw [zfd, show updN li x ix x = ix by simp [updN], zfd_upd L hne, zk_add]
      by_cases q2 : i = ix
      · rw [if_pos ⟨rfl, q2⟩, if_pos q2.symm]
      · rw [if_neg (fun z => q2 z.2), if_neg (fun z => q2 z.symm)]
        exact h4 i
  · by_cases q2 : r' = x
    · subst q2
      refine ⟨[], by show updN (updN fc r' 0) r r' r' = 0; simp [updN, q1], trivial, fun c hc => (by cases hc), fun i => ?_⟩
      rw [zk_add, if_neg (fun z => q1 z.1)]
      exact h0 i
    · have hv : zval m x r' := by
        rcases hr' with z | z
        · exact Or.inl z
        · exact Or.inr ⟨z.1, by omega⟩
      obtain ⟨L, h1, h2, h3, h4⟩ := h r' hv
      have hne : ∀ e ∈ L, e ≠ x := fun e he => Nat.ne_of_lt (zdec_lt L x h2 e he)
      refine ⟨L, ?_, mono L h2, h3, fun i => ?_⟩
      · rw [show updN (updN fc x 0) r x r' = fc r' by simp [updN, q1, q2]]
        exact zl_upd L (fc r') hne h1
      · rw [zk_add, if_neg (fun z => q1 z.1), zfd_upd L hne]
        exact h4 i
/-- the map behind a written row -/
def zk_ch (fr : Bool) (ch : Nat → Nat → Nat) (r ix x : Nat) : Nat → Nat → Nat := if fr = true then (fun _ _ => 0) else zk_add ch r ix x
/-- the writer as a function: the value of all bits, how many -/
def ze_run (m : Nat) (g : Nat → Nat) : Nat → Nat → Nat → Nat → Nat → Nat → Nat → Bool → (Nat → Nat → Nat) → Nat × Nat
  | 0, _, r, V, P, b, x, fr, _ => ((ze_row m r V P b x fr).1 + (2 ^ m + 1) * 2 ^ (ze_row m r V P b x fr).2.1, (ze_row m r V P b x fr).2.1 + (ze_row m r V P b x fr).2.2.1)
  | d + 1, i, r, V, P, b, x, fr, ch => if ch r (g i) = 0 then ze_run m g d (i + 1) (g i) (ze_row m r V P b x fr).1 (ze_row m r V P b x fr).2.1 (ze_row m r V P b x fr).2.2.1 (ze_row m r V P b x fr).2.2.2.1 (ze_row m r V P b x fr).2.2.2.2 (zk_ch (ze_row m r V P b x fr).2.2.2.2 ch r (g i) (ze_row m r V P b x fr).2.2.2.1) else ze_run m g d (i + 1) (ch r (g i)) V P b x fr ch
theorem ze_row_P (m r V P b x : Nat) (fr : Bool) : P ≤ (ze_row m r V P b x fr).2.1 := by
  unfold ze_row
  by_cases q : 4096 ≤ zn_x x fr
  · rw [if_pos q]; show P ≤ P + b + _; omega
  · rw [if_neg q]; show P ≤ P + b; omega
theorem ze_run_P (m : Nat) (g : Nat → Nat) : ∀ (d i r V P b x : Nat) (fr : Bool) (ch : Nat → Nat → Nat), P ≤ (ze_run m g d i r V P b x fr ch).2
  | 0, i, r, V, P, b, x, fr, ch => by
    have := ze_row_P m r V P b x fr
    rw [ze_run]
    show P ≤ (ze_row m r V P b x fr).2.1 + _
    omega
  | d + 1, i, r, V, P, b, x, fr, ch => by
    rw [ze_run]
    by_cases q : ch r (g i) = 0
    · rw [if_pos q]
      exact Nat.le_trans (ze_row_P m r V P b x fr) (ze_run_P m g d _ _ _ _ _ _ _ _)
    · rw [if_neg q]
      exact ze_run_P m g d _ _ _ _ _ _ _ _
/-- what holds of the writer's numbers between codes -/
def ze_inv (m b x : Nat) (fr : Bool) : Prop := (m + 1 ≤ b ∧ b ≤ 12) ∧ (2 ^ m + 2 ≤ x ∧ x ≤ 4095) ∧ x < 2 ^ b ∧ (fr = true → x = 2 ^ m + 2)
def ze_top (x : Nat) (fr : Bool) : Nat := if fr = true then x else x + 1
theorem ze_inv_new {m : Nat} (hm : 2 ≤ m ∧ m ≤ 8) : ze_inv m (m + 1) (2 ^ m + 2) true := by
  have h1 := zp_pow8 hm.2
  have h2 : 2 ^ 2 ≤ 2 ^ m := Nat.pow_le_pow_right (by decide) hm.1
  refine ⟨⟨Nat.le_refl _, by omega⟩, ⟨Nat.le_refl _, by omega⟩, ?_, fun _ => rfl⟩
  rw [Nat.pow_succ]
  omega
theorem ze_inv_row {m b x : Nat} {fr : Bool} (hm : 2 ≤ m ∧ m ≤ 8) (h : ze_inv m b x fr) (r V P : Nat) : ze_inv m (ze_row m r V P b x fr).2.2.1 (ze_row m r V P b x fr).2.2.2.1 (ze_row m r V P b x fr).2.2.2.2 := by
  obtain ⟨h1, h2, h3, h4⟩ := h
  unfold ze_row
  by_cases q : 4096 ≤ zn_x x fr
  · rw [if_pos q]; exact ze_inv_new hm
  · rw [if_neg q]
    have a2 := zn_b_le (x := x) (fr := fr) h1.2
    have a1 := zn_x_le (fr := fr) (show x ≤ 4096 by omega)
    refine ⟨⟨by show m + 1 ≤ zn_b b x fr; omega, a2.2⟩, ⟨by show 2 ^ m + 2 ≤ zn_x x fr; omega, by show zn_x x fr ≤ 4095; omega⟩, ?_, fun z => by cases z⟩
    show zn_x x fr < 2 ^ zn_b b x fr
    unfold zn_x zn_b
    unfold zn_x at q
    by_cases q1 : fr = false ∧ x < 4096
    · rw [if_pos q1] at q ⊢
      by_cases q2 : x + 1 = 2 ^ b
      · have hb : b < 12 := by
          by_cases z : b < 12
          · exact z
          · have e : b = 12 := by omega
            rw [e] at q2
            omega
        rw [if_pos ⟨q1.1, q1.2, q2, hb⟩, Nat.pow_succ]
        omega
      · rw [if_neg (fun z => q2 z.2.2.1)]
        omega
    · rw [if_neg q1] at q ⊢
      rw [if_neg (fun z => q1 ⟨z.1, z.2.1⟩)]
      exact h3
theorem ze_child {m b x r V P : Nat} {fr : Bool} (h : x ≤ 4095) (fc : Nat → Nat) (he : (ze_row m r V P b x fr).2.2.2.2 = false) : (ze_row m r V P b x fr).2.2.2.1 = ze_top x fr ∧ ze_fc m x fr fc = fc := by
  unfold ze_row at he ⊢
  unfold ze_fc
  by_cases q : 4096 ≤ zn_x x fr
  · rw [if_pos q] at he; cases he
  · rw [if_neg q, if_neg q]
    refine ⟨?_, rfl⟩
    show zn_x x fr = ze_top x fr
    unfold zn_x ze_top
    cases fr with
    | true => rw [if_neg (fun z => by cases z.1), if_pos rfl]
    | false => rw [if_pos ⟨rfl, by omega⟩, if_neg (by decide)]
theorem ze_full {m b x r V P : Nat} {fr : Bool} (fc : Nat → Nat) (he : (ze_row m r V P b x fr).2.2.2.2 = true) : (ze_row m r V P b x fr).2.2.2.1 = 2 ^ m + 2 ∧ ze_fc m x fr fc = zk_clr m fc := by
  unfold ze_row at he ⊢
  unfold ze_fc
  by_cases q : 4096 ≤ zn_x x fr
  · rw [if_pos q, if_pos q]; exact ⟨rfl, rfl⟩
  · rw [if_neg q] at he; cases he
theorem zk_clr_lt {m : Nat} {fc : Nat → Nat} (h : ∀ j, fc j < 4096) : ∀ j, zk_clr m fc j < 4096 := fun j => by
  unfold zk_clr
  by_cases q : j < 2 ^ m
  · rw [if_pos q]; decide
  · rw [if_neg q]; exact h j
theorem ze_fc_lt {m x : Nat} {fr : Bool} {fc : Nat → Nat} (h : ∀ j, fc j < 4096) : ∀ j, ze_fc m x fr fc j < 4096 := by
  unfold ze_fc
  by_cases q : 4096 ≤ zn_x x fr
  · rw [if_pos q]; exact zk_clr_lt h
  · rw [if_neg q]; exact h
theorem updN_lt {g : Nat → Nat} {k v B : Nat} (h : ∀ j, g j < B) (hv : v < B) : ∀ j, updN g k v j < B := fun j => by
  unfold updN
  by_cases q : j = k
  · rw [if_pos q]; exact hv
  · rw [if_neg q]; exact h j
set_option maxRecDepth 100000 in
set_option maxHeartbeats 4000000 in
theorem sg_PK_write0 {p : Program} {l : Launch} {e : Env} {s : State} {mi : MethodId} {args : Array Value} {below : List Frame} {meth : Method} {co : Code} {D : va_G} {cB cI cL : ClassId} {w0 : va_W} {kr nr : Nat} {post : Outcome → va_W → Prop} (C : zx_C p s mi args co b_PK_write 9 R_PK zB D zcl (zt cB cI cL) (va_A w0 s.heap.size)) {a na ka qb ia t fa sa la m n8 : Nat} {m9 b9 x9 f9 n9 w9 v9 : Int32} {fc ns li : Nat → Nat} {ft f : Nat → Int32} (hm : m ≤ 8) (hby : ∀ j, vp_nar .byte (f j) = f j) (hr9 : meth.sig.returnType = some .int) (hlk9 : meth.locks = false) (hl9 : l.stackTraces = false) (ht9 : co.exceptionTable.toList.map (fun h => (h.startPc, h.endPc, h.handlerPc, h.catchType)) = []) (b23 : ∀ f2 : Nat → Int32, ∀ n2 : Nat, ∀ v2 : Nat, ∀ w2 : Nat, (zS f2 n2 v2 w2 (0 + 2 ^ m * 2 ^ 0) (0 + (m + 1)) ∧ w2 < 8 ∧ n2 ≤ 16384) → (0 : Int32) = nI 0 ∧ 0 < 16384) (e27 : ∀ f2 : Nat → Int32, ∀ n2 : Nat, ∀ v2 : Nat, ∀ w2 : Nat, (zS f2 n2 v2 w2 (0 + 2 ^ m * 2 ^ 0) (0 + (m + 1)) ∧ w2 < 8 ∧ n2 ≤ 16384) → ((ft 0) &&& (255 : Int32)) = (nI (zu (ft 0)))) (k33 : ∀ f2 : Nat → Int32, ∀ n2 : Nat, ∀ v2 : Nat, ∀ w2 : Nat, (zS f2 n2 v2 w2 (0 + 2 ^ m * 2 ^ 0) (0 + (m + 1)) ∧ w2 < 8 ∧ n2 ≤ 16384) → zx_At p l e (zr 12 1 6) s mi args below meth co (zx_Q below s D zcl w0 kr nr (zr 12 1 6) post) D zcl (va_A w0 s.heap.size) 9 [(0, .ref a), (1, .ref t), (2, .int (nI n8)), (3, .int (nI m)), (4, .ref ia), (5, .int (nI (zu (ft 0)))), (6, .int (1 : Int32))] [(a, .inr (3, [.ref na, .ref ka, .ref fa, .ref sa, .ref la])), (na, .inr (0, [.int (nI m), .int (nI (m + 1)), .int (nI (2 ^ m + 2)), .int 1])), (ka, .inr (1, [.ref ia, .int (nI n2), .int (nI v2), .int (nI w2)])), (fa, .inl (cI, 4096, .inl (zf (zk_clr m fc)))), (sa, .inl (cI, 4096, .inl (zf ns))), (la, .inl (cI, 4096, .inl (zf li))), (t, .inl (cB, 16384, .inl ft)), (ia, .inl (cB, 16384, .inl f2))] 0 0 33 []) (t18 : ∀ f2 : Nat → Int32, ∀ n2 : Nat, ∀ v2 : Nat, ∀ w2 : Nat, (16384 < (0 + (m + 1)) / 8 ∧ ∀ j, vp_nar .byte (f2 j) = f2 j) → ∀ x9 : Nat, post (.threw x9) [(a, .inr (3, [.ref na, .ref ka, .ref fa, .ref sa, .ref la])), (na, .inr (0, [.int (nI m), .int (nI (m + 1)), .int (nI (2 ^ m + 2)), .int (zb true)])), (ka, .inr (1, [.ref ia, .int (nI n2), .int (nI v2), .int (nI w2)])), (fa, .inl (cI, 4096, .inl (zf fc))), (sa, .inl (cI, 4096, .inl (zf ns))), (la, .inl (cI, 4096, .inl (zf li))), (t, .inl (cB, 16384, .inl ft)), (ia, .inl (cB, 16384, .inl f2)), (x9, .inr (8, []))]) : zx_At p l e (zr 12 1 6) s mi args below meth co (zx_Q below s D zcl w0 kr nr (zr 12 1 6) post) D zcl (va_A w0 s.heap.size) 9 [(0, .ref a), (1, .ref t), (2, .int (nI n8)), (3, .int (nI m)), (4, .ref ia)] [(a, .inr (3, [.ref na, .ref ka, .ref fa, .ref sa, .ref la])), (na, .inr (0, [.int m9, .int b9, .int x9, .int f9])), (ka, .inr (1, [.ref qb, .int n9, .int w9, .int v9])), (fa, .inl (cI, 4096, .inl (zf fc))), (sa, .inl (cI, 4096, .inl (zf ns))), (la, .inl (cI, 4096, .inl (zf li))), (t, .inl (cB, 16384, .inl ft)), (ia, .inl (cB, 16384, .inl f))] 0 0 0 [] := by
  refine zx_aload_n (pc := 0) C d_PK_write_0 rfl 0 rfl ?_
  refine zx_get (pc := 1) (ci := 3) (Cn := R_PK) (T := T_PK) (N := 5) (v := .ref na) C zu_PK 0 rfl rfl 0 (by decide) zw_113 rfl rfl d_PK_write_1 ?_
  refine zx_iload_n (pc := 4) C d_PK_write_4 rfl 3 rfl ?_
  refine zx_callV (pc := 5) (ix := 35) (As := [.int (nI m)]) (b := na) (q0 := 1) (wr := [(a, .inr (3, [.ref na, .ref ka, .ref fa, .ref sa, .ref la])), (ka, .inr (1, [.ref qb, .int n9, .int w9, .int v9])), (fa, .inl (cI, 4096, .inl (zf fc))), (sa, .inl (cI, 4096, .inl (zf ns))), (la, .inl (cI, 4096, .inl (zf li))), (t, .inl (cB, 16384, .inl ft)), (ia, .inl (cB, 16384, .inl f))]) (st := []) C (zx_cw.of (C.w zw_281)) (by decide +kernel) ⟨by decide +kernel, by decide +kernel⟩ zw_279 zw_280 zw_365 rfl rfl rfl rfl rfl (k_NU_startWith l D cB cI cL na m m9 b9 x9 f9 (by omega)) rfl [1] [0, 2, 3, 4, 5, 6, 7] rfl rfl (by decide) (by decide) (by decide) (Nat.le_of_ble_eq_true rfl) (Nat.le_of_ble_eq_true rfl) (Nat.le_of_ble_eq_true rfl) (Nat.le_of_ble_eq_true rfl) d_PK_write_5 (fun o w1 hp => ?_)
  obtain ⟨rfl, rfl⟩ := hp
  refine zx_rv (k2 := 0) (n2 := 0) rfl rfl ?_
  refine zx_ws (ws' := [(a, .inr (3, [.ref na, .ref ka, .ref fa, .ref sa, .ref la])), (na, .inr (0, [.int (nI m), .int (nI (m + 1)), .int (nI (2 ^ m + 2)), .int 1])), (ka, .inr (1, [.ref qb, .int n9, .int w9, .int v9])), (fa, .inl (cI, 4096, .inl (zf fc))), (sa, .inl (cI, 4096, .inl (zf ns))), (la, .inl (cI, 4096, .inl (zf li))), (t, .inl (cB, 16384, .inl ft)), (ia, .inl (cB, 16384, .inl f))]) [0, 7, 1, 2, 3, 4, 5, 6] (by decide) rfl ?_
  refine zx_aload_n (pc := 8) C d_PK_write_8 rfl 0 rfl ?_
  refine zx_get (pc := 9) (ci := 3) (Cn := R_PK) (T := T_PK) (N := 5) (v := .ref ka) C zu_PK 0 rfl rfl 1 (by decide) zw_114 rfl rfl d_PK_write_9 ?_
  refine zx_aload (pc := 12) C d_PK_write_12 4 rfl ?_
  refine zx_callV (pc := 14) (ix := 39) (As := [.ref ia]) (b := ka) (q0 := 2) (wr := [(a, .inr (3, [.ref na, .ref ka, .ref fa, .ref sa, .ref la])), (na, .inr (0, [.int (nI m), .int (nI (m + 1)), .int (nI (2 ^ m + 2)), .int 1])), (fa, .inl (cI, 4096, .inl (zf fc))), (sa, .inl (cI, 4096, .inl (zf ns))), (la, .inl (cI, 4096, .inl (zf li))), (t, .inl (cB, 16384, .inl ft)), (ia, .inl (cB, 16384, .inl f))]) (st := []) C (zx_cw.of (C.w zw_369)) (by decide +kernel) ⟨by decide +kernel, by decide +kernel⟩ zw_367 zw_368 zw_366 rfl rfl rfl rfl rfl (k_BS_startOn l D cB cI cL (zr 0 0 0) ka qb ia n9 w9 v9) rfl [2] [0, 1, 3, 4, 5, 6, 7] rfl rfl (by decide) (by decide) (by decide) (Nat.le_of_ble_eq_true rfl) (Nat.le_of_ble_eq_true rfl) (Nat.le_of_ble_eq_true rfl) (Nat.le_of_ble_eq_true rfl) d_PK_write_14 (fun o w1 hp => ?_)
  obtain ⟨rfl, rfl⟩ := hp
  refine zx_rv (k2 := 0) (n2 := 0) rfl rfl ?_
  refine zx_ws (ws' := [(a, .inr (3, [.ref na, .ref ka, .ref fa, .ref sa, .ref la])), (na, .inr (0, [.int (nI m), .int (nI (m + 1)), .int (nI (2 ^ m + 2)), .int 1])), (ka, .inr (1, [.ref ia, .int (nI 0), .int (nI 0), .int (nI 0)])), (fa, .inl (cI, 4096, .inl (zf fc))), (sa, .inl (cI, 4096, .inl (zf ns))), (la, .inl (cI, 4096, .inl (zf li))), (t, .inl (cB, 16384, .inl ft)), (ia, .inl (cB, 16384, .inl f))]) [0, 1, 7, 2, 3, 4, 5, 6] (by decide) rfl ?_
  refine zx_aload_n (pc := 17) C d_PK_write_17 rfl 0 rfl ?_
  refine zx_callV (pc := 18) (ix := 43) (As := []) (b := a) (q0 := 0) (wr := [(sa, .inl (cI, 4096, .inl (zf ns))), (la, .inl (cI, 4096, .inl (zf li))), (t, .inl (cB, 16384, .inl ft))]) (st := []) C (zx_cw.of (C.w zw_373)) (by decide +kernel) ⟨by decide +kernel, by decide +kernel⟩ zw_372 zs_PK_writeBeginning zw_370 rfl rfl rfl rfl rfl (k_PK_writeBeginning l D cB cI cL hl9 a na ka ia fa sa la m (m + 1) (2 ^ m + 2) 0 0 0 0 0 true fc f hm (by omega) (Nat.le_refl _) (zS_0 hby) (by decide) (by decide)) rfl [0, 1, 2, 7, 3] [4, 5, 6] rfl rfl (by decide) (by decide) (by decide) (Nat.le_of_ble_eq_true rfl) (Nat.le_of_ble_eq_true rfl) (Nat.le_of_ble_eq_true rfl) (Nat.le_of_ble_eq_true rfl) d_PK_write_18 (fun o w1 hp => ?_)
  rcases hp with ⟨f2, n2, v2, w2, hc18, rfl, rfl⟩ | ⟨f2, n2, v2, w2, hc18, x9, rfl, rfl⟩
  · refine zx_rv (k2 := 0) (n2 := 0) rfl rfl ?_
    refine zx_ws (ws' := [(a, .inr (3, [.ref na, .ref ka, .ref fa, .ref sa, .ref la])), (na, .inr (0, [.int (nI m), .int (nI (m + 1)), .int (nI (2 ^ m + 2)), .int 1])), (ka, .inr (1, [.ref ia, .int (nI n2), .int (nI v2), .int (nI w2)])), (fa, .inl (cI, 4096, .inl (zf (zk_clr m fc)))), (sa, .inl (cI, 4096, .inl (zf ns))), (la, .inl (cI, 4096, .inl (zf li))), (t, .inl (cB, 16384, .inl ft)), (ia, .inl (cB, 16384, .inl f2))]) [3, 4, 5, 7, 0, 1, 2, 6] (by decide) rfl ?_
    refine zx_aload_n (pc := 21) C d_PK_write_21 rfl 1 rfl ?_
    refine zx_iconst (pc := 22) C d_PK_write_22 (v := (0 : Int32)) (by decide) ?_
    refine zx_bald (pc := 23) C 6 0 rfl rfl 0 (b23 f2 n2 v2 w2 hc18).1 (b23 f2 n2 v2 w2 hc18).2 (by decide) d_PK_write_23 ?_
    refine zx_sipush (pc := 24) C d_PK_write_24 (v := (255 : Int32)) (by decide) ?_
    refine zx_iand (pc := 27) C d_PK_write_27 ?_
    refine zx_seti (nI (zu (ft 0))) (e27 f2 n2 v2 w2 hc18) ?_
    refine zx_istore (pc := 28) C d_PK_write_28 (by decide) (lv' := [(5, .int (nI (zu (ft 0)))), (0, .ref a), (1, .ref t), (2, .int (nI n8)), (3, .int (nI m)), (4, .ref ia)]) rfl ?_
    refine zx_iconst (pc := 30) C d_PK_write_30 (v := (1 : Int32)) (by decide) ?_
    refine zx_istore (pc := 31) C d_PK_write_31 (by decide) (lv' := [(6, .int (1 : Int32)), (5, .int (nI (zu (ft 0)))), (0, .ref a), (1, .ref t), (2, .int (nI n8)), (3, .int (nI m)), (4, .ref ia)]) rfl ?_
    refine zx_lv (lv' := [(0, .ref a), (1, .ref t), (2, .int (nI n8)), (3, .int (nI m)), (4, .ref ia), (5, .int (nI (zu (ft 0)))), (6, .int (1 : Int32))]) [2, 3, 4, 5, 6, 1, 0] rfl ?_
    exact k33 f2 n2 v2 w2 hc18
  · exact zx_rt (k2 := 1) (n2 := 6) rfl rfl (zx_wsT (ws' := [(a, .inr (3, [.ref na, .ref ka, .ref fa, .ref sa, .ref la])), (na, .inr (0, [.int (nI m), .int (nI (m + 1)), .int (nI (2 ^ m + 2)), .int (zb true)])), (ka, .inr (1, [.ref ia, .int (nI n2), .int (nI v2), .int (nI w2)])), (fa, .inl (cI, 4096, .inl (zf fc))), (sa, .inl (cI, 4096, .inl (zf ns))), (la, .inl (cI, 4096, .inl (zf li))), (t, .inl (cB, 16384, .inl ft)), (ia, .inl (cB, 16384, .inl f2)), (x9, .inr (8, []))]) [3, 4, 5, 7, 0, 1, 2, 6, 8] (by decide) rfl (zx_leave hlk9 (zx_noTab ht9 _) (Nat.le_of_ble_eq_true rfl) (Nat.le_of_ble_eq_true rfl) (t18 f2 n2 v2 w2 hc18 x9)))

set_option maxRecDepth 100000 in
set_option maxHeartbeats 4000000 in
theorem sg_PK_write33 {p : Program} {l : Launch} {e : Env} {s : State} {mi : MethodId} {args : Array Value} {below : List Frame} {meth : Method} {co : Code} {D : va_G} {cB cI cL : ClassId} {w0 : va_W} {kr nr : Nat} {post : Outcome → va_W → Prop} (C : zx_C p s mi args co b_PK_write 9 R_PK zB D zcl (zt cB cI cL) (va_A w0 s.heap.size)) {a na ka ia t fa sa la m n8 b x r n v wb V P i : Nat} {fr : Bool} {fc ns li : Nat → Nat} {ft f : Nat → Int32} (hm : m ≤ 8) (hb : b ≤ 12) (hmb : m + 1 ≤ b) (hx : x ≤ 4096) (hr0 : r < 2 ^ b) (hfc : ∀ j, fc j < 4096) (hz : zS f n v wb V P) (hwb : wb < 8) (hn : n ≤ 16384) (hr4 : r < 4096) (hns : ∀ j, ns j < 4096) (hli : ∀ j, li j < 256) (hEx : (ze_row m r V P b x fr).2.2.2.1 < 4096) (hrE : (ze_row m r V P b x fr).2.2.2.2 = false → r ≠ (ze_row m r V P b x fr).2.2.2.1) (hr9 : meth.sig.returnType = some .int) (hlk9 : meth.locks = false) (hl9 : l.stackTraces = false) (ht9 : co.exceptionTable.toList.map (fun h => (h.startPc, h.endPc, h.handlerPc, h.catchType)) = []) (k92 : ((nI n8) ≤ (nI i)) → zx_At p l e (zr 12 1 6) s mi args below meth co (zx_Q below s D zcl w0 kr nr (zr 12 1 6) post) D zcl (va_A w0 s.heap.size) 9 [(0, .ref a), (1, .ref t), (2, .int (nI n8)), (3, .int (nI m)), (4, .ref ia), (5, .int (nI r)), (6, .int (nI i))] [(a, .inr (3, [.ref na, .ref ka, .ref fa, .ref sa, .ref la])), (na, .inr (0, [.int (nI m), .int (nI b), .int (nI x), .int (zb fr)])), (ka, .inr (1, [.ref ia, .int (nI n), .int (nI v), .int (nI wb)])), (fa, .inl (cI, 4096, .inl (zf fc))), (sa, .inl (cI, 4096, .inl (zf ns))), (la, .inl (cI, 4096, .inl (zf li))), (t, .inl (cB, 16384, .inl ft)), (ia, .inl (cB, 16384, .inl f))] 0 0 92 []) (b42 : (¬ (nI n8) ≤ (nI i)) → (nI i) = nI i ∧ i < 16384) (e46 : (¬ (nI n8) ≤ (nI i)) → ((ft i) &&& (255 : Int32)) = (nI (zu (ft i)))) (e86 : (¬ (nI n8) ≤ (nI i)) → (¬ (nI (zk_find ns li (zu (ft i)) 4096 (fc r))) = 0) → (nI i) + (1 : Int32) = (nI (i + 1))) (k33 : (¬ (nI n8) ≤ (nI i)) → (¬ (nI (zk_find ns li (zu (ft i)) 4096 (fc r))) = 0) → zx_At p l e (zr 12 1 6) s mi args below meth co (zx_Q below s D zcl w0 kr nr (zr 12 1 6) post) D zcl (va_A w0 s.heap.size) 9 [(0, .ref a), (1, .ref t), (2, .int (nI n8)), (3, .int (nI m)), (4, .ref ia), (5, .int (nI (zk_find ns li (zu (ft i)) 4096 (fc r)))), (6, .int (nI (i + 1)))] [(a, .inr (3, [.ref na, .ref ka, .ref fa, .ref sa, .ref la])), (na, .inr (0, [.int (nI m), .int (nI b), .int (nI x), .int (zb fr)])), (ka, .inr (1, [.ref ia, .int (nI n), .int (nI v), .int (nI wb)])), (fa, .inl (cI, 4096, .inl (zf fc))), (sa, .inl (cI, 4096, .inl (zf ns))), (la, .inl (cI, 4096, .inl (zf li))), (t, .inl (cB, 16384, .inl ft)), (ia, .inl (cB, 16384, .inl f))] 0 0 33 []) (e86_2 : (¬ (nI n8) ≤ (nI i)) → ((nI (zk_find ns li (zu (ft i)) 4096 (fc r))) = 0) → ∀ f2 : Nat → Int32, ∀ n2 : Nat, ∀ v2 : Nat, ∀ w2 : Nat, (zS f2 n2 v2 w2 (ze_row m r V P b x fr).1 (ze_row m r V P b x fr).2.1 ∧ w2 < 8 ∧ n2 ≤ 16384) → ((ze_row m r V P b x fr).2.2.2.2 = true) → (nI i) + (1 : Int32) = (nI (i + 1))) (k33_2 : (¬ (nI n8) ≤ (nI i)) → ((nI (zk_find ns li (zu (ft i)) 4096 (fc r))) = 0) → ∀ f2 : Nat → Int32, ∀ n2 : Nat, ∀ v2 : Nat, ∀ w2 : Nat, (zS f2 n2 v2 w2 (ze_row m r V P b x fr).1 (ze_row m r V P b x fr).2.1 ∧ w2 < 8 ∧ n2 ≤ 16384) → ((ze_row m r V P b x fr).2.2.2.2 = true) → zx_At p l e (zr 12 1 6) s mi args below meth co (zx_Q below s D zcl w0 kr nr (zr 12 1 6) post) D zcl (va_A w0 s.heap.size) 9 [(0, .ref a), (1, .ref t), (2, .int (nI n8)), (3, .int (nI m)), (4, .ref ia), (5, .int (nI (zu (ft i)))), (6, .int (nI (i + 1)))] [(a, .inr (3, [.ref na, .ref ka, .ref fa, .ref sa, .ref la])), (na, .inr (0, [.int (nI m), .int (nI (ze_row m r V P b x fr).2.2.1), .int (nI (ze_row m r V P b x fr).2.2.2.1), .int (zb (ze_row m r V P b x fr).2.2.2.2)])), (ka, .inr (1, [.ref ia, .int (nI n2), .int (nI v2), .int (nI w2)])), (fa, .inl (cI, 4096, .inl (zf (ze_fc m x fr fc)))), (sa, .inl (cI, 4096, .inl (zf ns))), (la, .inl (cI, 4096, .inl (zf li))), (t, .inl (cB, 16384, .inl ft)), (ia, .inl (cB, 16384, .inl f2))] 0 0 33 []) (e86_3 : (¬ (nI n8) ≤ (nI i)) → ((nI (zk_find ns li (zu (ft i)) 4096 (fc r))) = 0) → ∀ f2 : Nat → Int32, ∀ n2 : Nat, ∀ v2 : Nat, ∀ w2 : Nat, (zS f2 n2 v2 w2 (ze_row m r V P b x fr).1 (ze_row m r V P b x fr).2.1 ∧ w2 < 8 ∧ n2 ≤ 16384) → ((ze_row m r V P b x fr).2.2.2.2 = false) → (nI i) + (1 : Int32) = (nI (i + 1))) (k33_3 : (¬ (nI n8) ≤ (nI i)) → ((nI (zk_find ns li (zu (ft i)) 4096 (fc r))) = 0) → ∀ f2 : Nat → Int32, ∀ n2 : Nat, ∀ v2 : Nat, ∀ w2 : Nat, (zS f2 n2 v2 w2 (ze_row m r V P b x fr).1 (ze_row m r V P b x fr).2.1 ∧ w2 < 8 ∧ n2 ≤ 16384) → ((ze_row m r V P b x fr).2.2.2.2 = false) → zx_At p l e (zr 12 1 6) s mi args below meth co (zx_Q below s D zcl w0 kr nr (zr 12 1 6) post) D zcl (va_A w0 s.heap.size) 9 [(0, .ref a), (1, .ref t), (2, .int (nI n8)), (3, .int (nI m)), (4, .ref ia), (5, .int (nI (zu (ft i)))), (6, .int (nI (i + 1)))] [(a, .inr (3, [.ref na, .ref ka, .ref fa, .ref sa, .ref la])), (na, .inr (0, [.int (nI m), .int (nI (ze_row m r V P b x fr).2.2.1), .int (nI (ze_row m r V P b x fr).2.2.2.1), .int (zb (ze_row m r V P b x fr).2.2.2.2)])), (ka, .inr (1, [.ref ia, .int (nI n2), .int (nI v2), .int (nI w2)])), (fa, .inl (cI, 4096, .inl (zf (updN (updN (ze_fc m x fr fc) (ze_row m r V P b x fr).2.2.2.1 0) r (ze_row m r V P b x fr).2.2.2.1)))), (sa, .inl (cI, 4096, .inl (zf (updN ns (ze_row m r V P b x fr).2.2.2.1 ((ze_fc m x fr fc) r))))), (la, .inl (cI, 4096, .inl (zf (updN li (ze_row m r V P b x fr).2.2.2.1 (zu (ft i)))))), (t, .inl (cB, 16384, .inl ft)), (ia, .inl (cB, 16384, .inl f2))] 0 0 33 []) (t67 : (¬ (nI n8) ≤ (nI i)) → ((nI (zk_find ns li (zu (ft i)) 4096 (fc r))) = 0) → ∀ f2 : Nat → Int32, ∀ n2 : Nat, ∀ v2 : Nat, ∀ w2 : Nat, ∀ b7 : Int32, ∀ x7 : Int32, ∀ f7 : Int32, ∀ fc7 : Nat → Nat, (16384 < (ze_row m r V P b x fr).2.1 / 8 ∧ (∀ j, fc7 j < 4096) ∧ ∀ j, vp_nar .byte (f2 j) = f2 j) → ∀ x9 : Nat, post (.threw x9) [(a, .inr (3, [.ref na, .ref ka, .ref fa, .ref sa, .ref la])), (na, .inr (0, [.int (nI m), .int b7, .int x7, .int f7])), (ka, .inr (1, [.ref ia, .int (nI n2), .int (nI v2), .int (nI w2)])), (fa, .inl (cI, 4096, .inl (zf fc7))), (sa, .inl (cI, 4096, .inl (zf ns))), (la, .inl (cI, 4096, .inl (zf li))), (t, .inl (cB, 16384, .inl ft)), (ia, .inl (cB, 16384, .inl f2)), (x9, .inr (8, []))]) : zx_At p l e (zr 12 1 6) s mi args below meth co (zx_Q below s D zcl w0 kr nr (zr 12 1 6) post) D zcl (va_A w0 s.heap.size) 9 [(0, .ref a), (1, .ref t), (2, .int (nI n8)), (3, .int (nI m)), (4, .ref ia), (5, .int (nI r)), (6, .int (nI i))] [(a, .inr (3, [.ref na, .ref ka, .ref fa, .ref sa, .ref la])), (na, .inr (0, [.int (nI m), .int (nI b), .int (nI x), .int (zb fr)])), (ka, .inr (1, [.ref ia, .int (nI n), .int (nI v), .int (nI wb)])), (fa, .inl (cI, 4096, .inl (zf fc))), (sa, .inl (cI, 4096, .inl (zf ns))), (la, .inl (cI, 4096, .inl (zf li))), (t, .inl (cB, 16384, .inl ft)), (ia, .inl (cB, 16384, .inl f))] 0 0 33 [] := by
  refine zx_iload (pc := 33) C d_PK_write_33 6 rfl ?_
  refine zx_iload_n (pc := 35) C d_PK_write_35 rfl 2 rfl ?_
  refine zx_icmp_ge (pc := 36) C 92 d_PK_write_36 (by decide) (fun c36 => ?_) (fun c36 => ?_)
  · exact k92 c36
  · refine zx_aload_n (pc := 39) C d_PK_write_39 rfl 1 rfl ?_
    refine zx_iload (pc := 40) C d_PK_write_40 6 rfl ?_
    refine zx_bald (pc := 42) C 6 0 rfl rfl i (b42 c36).1 (b42 c36).2 (by decide) d_PK_write_42 ?_
    refine zx_sipush (pc := 43) C d_PK_write_43 (v := (255 : Int32)) (by decide) ?_
    refine zx_iand (pc := 46) C d_PK_write_46 ?_
    refine zx_seti (nI (zu (ft i))) (e46 c36) ?_
    refine zx_istore (pc := 47) C d_PK_write_47 (by decide) (lv' := [(7, .int (nI (zu (ft i)))), (0, .ref a), (1, .ref t), (2, .int (nI n8)), (3, .int (nI m)), (4, .ref ia), (5, .int (nI r)), (6, .int (nI i))]) rfl ?_
    refine zx_aload_n (pc := 49) C d_PK_write_49 rfl 1 rfl ?_
    refine zx_iload (pc := 50) C d_PK_write_50 6 rfl ?_
    refine zx_iload (pc := 52) C d_PK_write_52 0 rfl ?_
    refine zx_callV (pc := 54) (ix := 46) (As := [.int (nI r), .int (nI (zu (ft i)))]) (b := a) (q0 := 0) (wr := [(na, .inr (0, [.int (nI m), .int (nI b), .int (nI x), .int (zb fr)])), (ka, .inr (1, [.ref ia, .int (nI n), .int (nI v), .int (nI wb)])), (t, .inl (cB, 16384, .inl ft)), (ia, .inl (cB, 16384, .inl f))]) (st := []) C (zx_cw.of (C.w zw_655)) (by decide +kernel) ⟨by decide +kernel, by decide +kernel⟩ zw_654 zs_PK_childOf zw_652 rfl rfl rfl rfl rfl (k_PK_childOf l D cB cI cL (zr 0 0 0) a na ka fa sa la r (zu (ft i)) fc ns li hr4 (zu_lt _) hfc hns hli) rfl [0, 3, 4, 5] [1, 2, 6, 7] rfl rfl (by decide) (by decide) (by decide) (Nat.le_of_ble_eq_true rfl) (Nat.le_of_ble_eq_true rfl) (Nat.le_of_ble_eq_true rfl) (Nat.le_of_ble_eq_true rfl) d_PK_write_54 (fun o w1 hp => ?_)
    obtain ⟨rfl, rfl⟩ := hp
    refine zx_ri (k2 := 0) (n2 := 0) rfl rfl ?_
    refine zx_ws (ws' := [(a, .inr (3, [.ref na, .ref ka, .ref fa, .ref sa, .ref la])), (na, .inr (0, [.int (nI m), .int (nI b), .int (nI x), .int (zb fr)])), (ka, .inr (1, [.ref ia, .int (nI n), .int (nI v), .int (nI wb)])), (fa, .inl (cI, 4096, .inl (zf fc))), (sa, .inl (cI, 4096, .inl (zf ns))), (la, .inl (cI, 4096, .inl (zf li))), (t, .inl (cB, 16384, .inl ft)), (ia, .inl (cB, 16384, .inl f))]) [4, 0, 1, 5, 6, 7, 2, 3] (by decide) rfl ?_
    refine zx_istore (pc := 57) C d_PK_write_57 (by decide) (lv' := [(8, .int (nI (zk_find ns li (zu (ft i)) 4096 (fc r)))), (7, .int (nI (zu (ft i)))), (0, .ref a), (1, .ref t), (2, .int (nI n8)), (3, .int (nI m)), (4, .ref ia), (5, .int (nI r)), (6, .int (nI i))]) rfl ?_
    refine zx_iload (pc := 59) C d_PK_write_59 0 rfl ?_
    refine zx_if_ne (pc := 61) C 82 d_PK_write_61 (by decide) (fun c61 => ?_) (fun c61 => ?_)
    · refine zx_iload (pc := 82) C d_PK_write_82 0 rfl ?_
      refine zx_istore (pc := 84) C d_PK_write_84 (by decide) (lv' := [(5, .int (nI (zk_find ns li (zu (ft i)) 4096 (fc r)))), (8, .int (nI (zk_find ns li (zu (ft i)) 4096 (fc r)))), (7, .int (nI (zu (ft i)))), (0, .ref a), (1, .ref t), (2, .int (nI n8)), (3, .int (nI m)), (4, .ref ia), (6, .int (nI i))]) rfl ?_
      refine zx_iinc (pc := 86) C d_PK_write_86 8 rfl (v := (nI (i + 1))) (e86 c36 c61) (by decide) (lv' := [(6, .int (nI (i + 1))), (5, .int (nI (zk_find ns li (zu (ft i)) 4096 (fc r)))), (8, .int (nI (zk_find ns li (zu (ft i)) 4096 (fc r)))), (7, .int (nI (zu (ft i)))), (0, .ref a), (1, .ref t), (2, .int (nI n8)), (3, .int (nI m)), (4, .ref ia)]) rfl ?_
      refine zx_goto (pc := 89) C 33 d_PK_write_89 (by decide) ?_
      refine zx_lv (lv' := [(0, .ref a), (1, .ref t), (2, .int (nI n8)), (3, .int (nI m)), (4, .ref ia), (5, .int (nI (zk_find ns li (zu (ft i)) 4096 (fc r)))), (6, .int (nI (i + 1)))]) [4, 5, 6, 7, 8, 1, 0] rfl ?_
      exact k33 c36 c61
    · refine zx_aload_n (pc := 64) C d_PK_write_64 rfl 2 rfl ?_
      refine zx_iload (pc := 65) C d_PK_write_65 7 rfl ?_
      refine zx_callV (pc := 67) (ix := 50) (As := [.int (nI r)]) (b := a) (q0 := 0) (wr := [(sa, .inl (cI, 4096, .inl (zf ns))), (la, .inl (cI, 4096, .inl (zf li))), (t, .inl (cB, 16384, .inl ft))]) (st := []) C (zx_cw.of (C.w zw_659)) (by decide +kernel) ⟨by decide +kernel, by decide +kernel⟩ zw_658 zs_PK_writeRow zw_656 rfl rfl rfl rfl rfl (k_PK_writeRow l D cB cI cL hl9 r a na ka ia fa sa la m b x n v wb V P fr fc f hm hb hmb hx hr0 hfc hz hwb hn) rfl [0, 1, 2, 7, 3] [4, 5, 6] rfl rfl (by decide) (by decide) (by decide) (Nat.le_of_ble_eq_true rfl) (Nat.le_of_ble_eq_true rfl) (Nat.le_of_ble_eq_true rfl) (Nat.le_of_ble_eq_true rfl) d_PK_write_67 (fun o w1 hp => ?_)
      rcases hp with ⟨f2, n2, v2, w2, hc67, rfl, rfl⟩ | ⟨f2, n2, v2, w2, b7, x7, f7, fc7, hc67, x9, rfl, rfl⟩
      · refine zx_rv (k2 := 0) (n2 := 0) rfl rfl ?_
        refine zx_ws (ws' := [(a, .inr (3, [.ref na, .ref ka, .ref fa, .ref sa, .ref la])), (na, .inr (0, [.int (nI m), .int (nI (ze_row m r V P b x fr).2.2.1), .int (nI (ze_row m r V P b x fr).2.2.2.1), .int (zb (ze_row m r V P b x fr).2.2.2.2)])), (ka, .inr (1, [.ref ia, .int (nI n2), .int (nI v2), .int (nI w2)])), (fa, .inl (cI, 4096, .inl (zf (ze_fc m x fr fc)))), (sa, .inl (cI, 4096, .inl (zf ns))), (la, .inl (cI, 4096, .inl (zf li))), (t, .inl (cB, 16384, .inl ft)), (ia, .inl (cB, 16384, .inl f2))]) [3, 4, 5, 7, 0, 1, 2, 6] (by decide) rfl ?_
        refine zx_aload_n (pc := 70) C d_PK_write_70 rfl 2 rfl ?_
        refine zx_iload (pc := 71) C d_PK_write_71 7 rfl ?_
        refine zx_iload (pc := 73) C d_PK_write_73 1 rfl ?_
        refine zx_callV (pc := 75) (ix := 53) (As := [.int (nI r), .int (nI (zu (ft i)))]) (b := a) (q0 := 0) (wr := [(ka, .inr (1, [.ref ia, .int (nI n2), .int (nI v2), .int (nI w2)])), (t, .inl (cB, 16384, .inl ft)), (ia, .inl (cB, 16384, .inl f2))]) (st := []) C (zx_cw.of (C.w zw_665)) (by decide +kernel) ⟨by decide +kernel, by decide +kernel⟩ zw_664 zs_PK_addChild zw_662 rfl rfl rfl rfl rfl (k_PK_addChild l D cB cI cL a na ka fa sa la m (ze_row m r V P b x fr).2.2.1 (ze_row m r V P b x fr).2.2.2.1 r (zu (ft i)) (ze_row m r V P b x fr).2.2.2.2 (ze_fc m x fr fc) ns li hEx hr4 hrE) rfl [0, 1, 3, 4, 5] [2, 6, 7] rfl rfl (by decide) (by decide) (by decide) (Nat.le_of_ble_eq_true rfl) (Nat.le_of_ble_eq_true rfl) (Nat.le_of_ble_eq_true rfl) (Nat.le_of_ble_eq_true rfl) d_PK_write_75 (fun o w1 hp => ?_)
        rcases hp with ⟨hc75, rfl, rfl⟩ | ⟨hc75, rfl, rfl⟩
        · refine zx_rv (k2 := 0) (n2 := 0) rfl rfl ?_
          refine zx_ws (ws' := [(a, .inr (3, [.ref na, .ref ka, .ref fa, .ref sa, .ref la])), (na, .inr (0, [.int (nI m), .int (nI (ze_row m r V P b x fr).2.2.1), .int (nI (ze_row m r V P b x fr).2.2.2.1), .int (zb (ze_row m r V P b x fr).2.2.2.2)])), (ka, .inr (1, [.ref ia, .int (nI n2), .int (nI v2), .int (nI w2)])), (fa, .inl (cI, 4096, .inl (zf (ze_fc m x fr fc)))), (sa, .inl (cI, 4096, .inl (zf ns))), (la, .inl (cI, 4096, .inl (zf li))), (t, .inl (cB, 16384, .inl ft)), (ia, .inl (cB, 16384, .inl f2))]) [3, 4, 0, 5, 6, 7, 1, 2] (by decide) rfl ?_
          refine zx_iload (pc := 78) C d_PK_write_78 1 rfl ?_
          refine zx_istore (pc := 80) C d_PK_write_80 (by decide) (lv' := [(8, .int (nI (zu (ft i)))), (7, .int (nI (zu (ft i)))), (0, .ref a), (1, .ref t), (2, .int (nI n8)), (3, .int (nI m)), (4, .ref ia), (5, .int (nI r)), (6, .int (nI i))]) rfl ?_
          refine zx_iload (pc := 82) C d_PK_write_82 0 rfl ?_
          refine zx_istore (pc := 84) C d_PK_write_84 (by decide) (lv' := [(5, .int (nI (zu (ft i)))), (8, .int (nI (zu (ft i)))), (7, .int (nI (zu (ft i)))), (0, .ref a), (1, .ref t), (2, .int (nI n8)), (3, .int (nI m)), (4, .ref ia), (6, .int (nI i))]) rfl ?_
          refine zx_iinc (pc := 86) C d_PK_write_86 8 rfl (v := (nI (i + 1))) (e86_2 c36 c61 f2 n2 v2 w2 hc67 hc75) (by decide) (lv' := [(6, .int (nI (i + 1))), (5, .int (nI (zu (ft i)))), (8, .int (nI (zu (ft i)))), (7, .int (nI (zu (ft i)))), (0, .ref a), (1, .ref t), (2, .int (nI n8)), (3, .int (nI m)), (4, .ref ia)]) rfl ?_
          refine zx_goto (pc := 89) C 33 d_PK_write_89 (by decide) ?_
          refine zx_lv (lv' := [(0, .ref a), (1, .ref t), (2, .int (nI n8)), (3, .int (nI m)), (4, .ref ia), (5, .int (nI (zu (ft i)))), (6, .int (nI (i + 1)))]) [4, 5, 6, 7, 8, 1, 0] rfl ?_
          exact k33_2 c36 c61 f2 n2 v2 w2 hc67 hc75
        · refine zx_rv (k2 := 0) (n2 := 0) rfl rfl ?_
          refine zx_ws (ws' := [(a, .inr (3, [.ref na, .ref ka, .ref fa, .ref sa, .ref la])), (na, .inr (0, [.int (nI m), .int (nI (ze_row m r V P b x fr).2.2.1), .int (nI (ze_row m r V P b x fr).2.2.2.1), .int (zb (ze_row m r V P b x fr).2.2.2.2)])), (ka, .inr (1, [.ref ia, .int (nI n2), .int (nI v2), .int (nI w2)])), (fa, .inl (cI, 4096, .inl (zf (updN (updN (ze_fc m x fr fc) (ze_row m r V P b x fr).2.2.2.1 0) r (ze_row m r V P b x fr).2.2.2.1)))), (sa, .inl (cI, 4096, .inl (zf (updN ns (ze_row m r V P b x fr).2.2.2.1 ((ze_fc m x fr fc) r))))), (la, .inl (cI, 4096, .inl (zf (updN li (ze_row m r V P b x fr).2.2.2.1 (zu (ft i)))))), (t, .inl (cB, 16384, .inl ft)), (ia, .inl (cB, 16384, .inl f2))]) [3, 4, 0, 5, 6, 7, 1, 2] (by decide) rfl ?_
          refine zx_iload (pc := 78) C d_PK_write_78 1 rfl ?_
          refine zx_istore (pc := 80) C d_PK_write_80 (by decide) (lv' := [(8, .int (nI (zu (ft i)))), (7, .int (nI (zu (ft i)))), (0, .ref a), (1, .ref t), (2, .int (nI n8)), (3, .int (nI m)), (4, .ref ia), (5, .int (nI r)), (6, .int (nI i))]) rfl ?_
          refine zx_iload (pc := 82) C d_PK_write_82 0 rfl ?_
          refine zx_istore (pc := 84) C d_PK_write_84 (by decide) (lv' := [(5, .int (nI (zu (ft i)))), (8, .int (nI (zu (ft i)))), (7, .int (nI (zu (ft i)))), (0, .ref a), (1, .ref t), (2, .int (nI n8)), (3, .int (nI m)), (4, .ref ia), (6, .int (nI i))]) rfl ?_
          refine zx_iinc (pc := 86) C d_PK_write_86 8 rfl (v := (nI (i + 1))) (e86_3 c36 c61 f2 n2 v2 w2 hc67 hc75) (by decide) (lv' := [(6, .int (nI (i + 1))), (5, .int (nI (zu (ft i)))), (8, .int (nI (zu (ft i)))), (7, .int (nI (zu (ft i)))), (0, .ref a), (1, .ref t), (2, .int (nI n8)), (3, .int (nI m)), (4, .ref ia)]) rfl ?_
          refine zx_goto (pc := 89) C 33 d_PK_write_89 (by decide) ?_
          refine zx_lv (lv' := [(0, .ref a), (1, .ref t), (2, .int (nI n8)), (3, .int (nI m)), (4, .ref ia), (5, .int (nI (zu (ft i)))), (6, .int (nI (i + 1)))]) [4, 5, 6, 7, 8, 1, 0] rfl ?_
          exact k33_3 c36 c61 f2 n2 v2 w2 hc67 hc75
      · exact zx_rt (k2 := 1) (n2 := 6) rfl rfl (zx_wsT (ws' := [(a, .inr (3, [.ref na, .ref ka, .ref fa, .ref sa, .ref la])), (na, .inr (0, [.int (nI m), .int b7, .int x7, .int f7])), (ka, .inr (1, [.ref ia, .int (nI n2), .int (nI v2), .int (nI w2)])), (fa, .inl (cI, 4096, .inl (zf fc7))), (sa, .inl (cI, 4096, .inl (zf ns))), (la, .inl (cI, 4096, .inl (zf li))), (t, .inl (cB, 16384, .inl ft)), (ia, .inl (cB, 16384, .inl f2)), (x9, .inr (8, []))]) [3, 4, 5, 7, 0, 1, 2, 6, 8] (by decide) rfl (zx_leave hlk9 (zx_noTab ht9 _) (Nat.le_of_ble_eq_true rfl) (Nat.le_of_ble_eq_true rfl) (t67 c36 c61 f2 n2 v2 w2 b7 x7 f7 fc7 hc67 x9)))

set_option maxRecDepth 100000 in
set_option maxHeartbeats 4000000 in
theorem sg_PK_write92 {p : Program} {l : Launch} {e : Env} {s : State} {mi : MethodId} {args : Array Value} {below : List Frame} {meth : Method} {co : Code} {D : va_G} {cB cI cL : ClassId} {w0 : va_W} {kr nr : Nat} {post : Outcome → va_W → Prop} (C : zx_C p s mi args co b_PK_write 9 R_PK zB D zcl (zt cB cI cL) (va_A w0 s.heap.size)) {a na ka ia t fa sa la m n8 b x r n v wb V P i : Nat} {fr : Bool} {fc ns li : Nat → Nat} {ft f : Nat → Int32} (hm : m ≤ 8) (hb : b ≤ 12) (hmb : m + 1 ≤ b) (hx : x ≤ 4096) (hr0 : r < 2 ^ b) (hfc : ∀ j, fc j < 4096) (hz : zS f n v wb V P) (hwb : wb < 8) (hn : n ≤ 16384) (hEb : (ze_row m r V P b x fr).2.2.1 ≤ 12) (hEc : 2 ^ m + 1 < 2 ^ (ze_row m r V P b x fr).2.2.1) (hr9 : meth.sig.returnType = some .int) (hlk9 : meth.locks = false) (hl9 : l.stackTraces = false) (ht9 : co.exceptionTable.toList.map (fun h => (h.startPc, h.endPc, h.handlerPc, h.catchType)) = []) (r126 : ∀ f2 : Nat → Int32, ∀ n2 : Nat, ∀ v2 : Nat, ∀ w2 : Nat, (zS f2 n2 v2 w2 (ze_row m r V P b x fr).1 (ze_row m r V P b x fr).2.1 ∧ w2 < 8 ∧ n2 ≤ 16384) → ∀ f3 : Nat → Int32, ∀ n3 : Nat, ∀ v3 : Nat, ∀ w3 : Nat, (zS f3 n3 v3 w3 ((ze_row m r V P b x fr).1 + (2 ^ m + 1) * 2 ^ (ze_row m r V P b x fr).2.1) ((ze_row m r V P b x fr).2.1 + (ze_row m r V P b x fr).2.2.1) ∧ w3 < 8 ∧ n3 ≤ 16384) → ∀ f4 : Nat → Int32, ∀ u1 : Int32, ∀ u2 : Int32, ((((((ze_row m r V P b x fr).2.1 + (ze_row m r V P b x fr).2.2.1) + 7) / 8 ≤ 16384) ∧ ∀ j, j < (((ze_row m r V P b x fr).2.1 + (ze_row m r V P b x fr).2.2.1) + 7) / 8 → f4 j = zby (((ze_row m r V P b x fr).1 + (2 ^ m + 1) * 2 ^ (ze_row m r V P b x fr).2.1) / 256 ^ j)) ∧ ∀ j, vp_nar .byte (f4 j) = f4 j) → post (.returned (some (.int (nI ((((ze_row m r V P b x fr).2.1 + (ze_row m r V P b x fr).2.2.1) + 7) / 8))))) [(a, .inr (3, [.ref na, .ref ka, .ref fa, .ref sa, .ref la])), (na, .inr (0, [.int (nI m), .int (nI (ze_row m r V P b x fr).2.2.1), .int (nI (ze_row m r V P b x fr).2.2.2.1), .int (zb (ze_row m r V P b x fr).2.2.2.2)])), (ka, .inr (1, [.ref ia, .int (nI ((((ze_row m r V P b x fr).2.1 + (ze_row m r V P b x fr).2.2.1) + 7) / 8)), .int u1, .int u2])), (fa, .inl (cI, 4096, .inl (zf (ze_fc m x fr fc)))), (sa, .inl (cI, 4096, .inl (zf ns))), (la, .inl (cI, 4096, .inl (zf li))), (t, .inl (cB, 16384, .inl ft)), (ia, .inl (cB, 16384, .inl f4))]) (t123 : ∀ f2 : Nat → Int32, ∀ n2 : Nat, ∀ v2 : Nat, ∀ w2 : Nat, (zS f2 n2 v2 w2 (ze_row m r V P b x fr).1 (ze_row m r V P b x fr).2.1 ∧ w2 < 8 ∧ n2 ≤ 16384) → ∀ f3 : Nat → Int32, ∀ n3 : Nat, ∀ v3 : Nat, ∀ w3 : Nat, (zS f3 n3 v3 w3 ((ze_row m r V P b x fr).1 + (2 ^ m + 1) * 2 ^ (ze_row m r V P b x fr).2.1) ((ze_row m r V P b x fr).2.1 + (ze_row m r V P b x fr).2.2.1) ∧ w3 < 8 ∧ n3 ≤ 16384) → ∀ f4 : Nat → Int32, ∀ u0 : Int32, ∀ u1 : Int32, ∀ u2 : Int32, (16384 < (((ze_row m r V P b x fr).2.1 + (ze_row m r V P b x fr).2.2.1) + 7) / 8 ∧ ∀ j, vp_nar .byte (f4 j) = f4 j) → ∀ x9 : Nat, post (.threw x9) [(a, .inr (3, [.ref na, .ref ka, .ref fa, .ref sa, .ref la])), (na, .inr (0, [.int (nI m), .int (nI (ze_row m r V P b x fr).2.2.1), .int (nI (ze_row m r V P b x fr).2.2.2.1), .int (zb (ze_row m r V P b x fr).2.2.2.2)])), (ka, .inr (1, [.ref ia, .int u0, .int u1, .int u2])), (fa, .inl (cI, 4096, .inl (zf (ze_fc m x fr fc)))), (sa, .inl (cI, 4096, .inl (zf ns))), (la, .inl (cI, 4096, .inl (zf li))), (t, .inl (cB, 16384, .inl ft)), (ia, .inl (cB, 16384, .inl f4)), (x9, .inr (8, []))]) (t116 : ∀ f2 : Nat → Int32, ∀ n2 : Nat, ∀ v2 : Nat, ∀ w2 : Nat, (zS f2 n2 v2 w2 (ze_row m r V P b x fr).1 (ze_row m r V P b x fr).2.1 ∧ w2 < 8 ∧ n2 ≤ 16384) → ∀ f3 : Nat → Int32, ∀ n3 : Nat, ∀ v3 : Nat, ∀ w3 : Nat, (16384 < ((ze_row m r V P b x fr).2.1 + (ze_row m r V P b x fr).2.2.1) / 8 ∧ ∀ j, vp_nar .byte (f3 j) = f3 j) → ∀ x9 : Nat, post (.threw x9) [(a, .inr (3, [.ref na, .ref ka, .ref fa, .ref sa, .ref la])), (na, .inr (0, [.int (nI m), .int (nI (ze_row m r V P b x fr).2.2.1), .int (nI (ze_row m r V P b x fr).2.2.2.1), .int (zb (ze_row m r V P b x fr).2.2.2.2)])), (ka, .inr (1, [.ref ia, .int (nI n3), .int (nI v3), .int (nI w3)])), (fa, .inl (cI, 4096, .inl (zf (ze_fc m x fr fc)))), (sa, .inl (cI, 4096, .inl (zf ns))), (la, .inl (cI, 4096, .inl (zf li))), (t, .inl (cB, 16384, .inl ft)), (ia, .inl (cB, 16384, .inl f3)), (x9, .inr (8, []))]) (t95 : ∀ f2 : Nat → Int32, ∀ n2 : Nat, ∀ v2 : Nat, ∀ w2 : Nat, ∀ b7 : Int32, ∀ x7 : Int32, ∀ f7 : Int32, ∀ fc7 : Nat → Nat, (16384 < (ze_row m r V P b x fr).2.1 / 8 ∧ (∀ j, fc7 j < 4096) ∧ ∀ j, vp_nar .byte (f2 j) = f2 j) → ∀ x9 : Nat, post (.threw x9) [(a, .inr (3, [.ref na, .ref ka, .ref fa, .ref sa, .ref la])), (na, .inr (0, [.int (nI m), .int b7, .int x7, .int f7])), (ka, .inr (1, [.ref ia, .int (nI n2), .int (nI v2), .int (nI w2)])), (fa, .inl (cI, 4096, .inl (zf fc7))), (sa, .inl (cI, 4096, .inl (zf ns))), (la, .inl (cI, 4096, .inl (zf li))), (t, .inl (cB, 16384, .inl ft)), (ia, .inl (cB, 16384, .inl f2)), (x9, .inr (8, []))]) : zx_At p l e (zr 12 1 6) s mi args below meth co (zx_Q below s D zcl w0 kr nr (zr 12 1 6) post) D zcl (va_A w0 s.heap.size) 9 [(0, .ref a), (1, .ref t), (2, .int (nI n8)), (3, .int (nI m)), (4, .ref ia), (5, .int (nI r)), (6, .int (nI i))] [(a, .inr (3, [.ref na, .ref ka, .ref fa, .ref sa, .ref la])), (na, .inr (0, [.int (nI m), .int (nI b), .int (nI x), .int (zb fr)])), (ka, .inr (1, [.ref ia, .int (nI n), .int (nI v), .int (nI wb)])), (fa, .inl (cI, 4096, .inl (zf fc))), (sa, .inl (cI, 4096, .inl (zf ns))), (la, .inl (cI, 4096, .inl (zf li))), (t, .inl (cB, 16384, .inl ft)), (ia, .inl (cB, 16384, .inl f))] 0 0 92 [] := by
  refine zx_aload_n (pc := 92) C d_PK_write_92 rfl 0 rfl ?_
  refine zx_iload (pc := 93) C d_PK_write_93 5 rfl ?_
  refine zx_callV (pc := 95) (ix := 50) (As := [.int (nI r)]) (b := a) (q0 := 0) (wr := [(sa, .inl (cI, 4096, .inl (zf ns))), (la, .inl (cI, 4096, .inl (zf li))), (t, .inl (cB, 16384, .inl ft))]) (st := []) C (zx_cw.of (C.w zw_659)) (by decide +kernel) ⟨by decide +kernel, by decide +kernel⟩ zw_658 zs_PK_writeRow zw_656 rfl rfl rfl rfl rfl (k_PK_writeRow l D cB cI cL hl9 r a na ka ia fa sa la m b x n v wb V P fr fc f hm hb hmb hx hr0 hfc hz hwb hn) rfl [0, 1, 2, 7, 3] [4, 5, 6] rfl rfl (by decide) (by decide) (by decide) (Nat.le_of_ble_eq_true rfl) (Nat.le_of_ble_eq_true rfl) (Nat.le_of_ble_eq_true rfl) (Nat.le_of_ble_eq_true rfl) d_PK_write_95 (fun o w1 hp => ?_)
  rcases hp with ⟨f2, n2, v2, w2, hc95, rfl, rfl⟩ | ⟨f2, n2, v2, w2, b7, x7, f7, fc7, hc95, x9, rfl, rfl⟩
  · refine zx_rv (k2 := 0) (n2 := 0) rfl rfl ?_
    refine zx_ws (ws' := [(a, .inr (3, [.ref na, .ref ka, .ref fa, .ref sa, .ref la])), (na, .inr (0, [.int (nI m), .int (nI (ze_row m r V P b x fr).2.2.1), .int (nI (ze_row m r V P b x fr).2.2.2.1), .int (zb (ze_row m r V P b x fr).2.2.2.2)])), (ka, .inr (1, [.ref ia, .int (nI n2), .int (nI v2), .int (nI w2)])), (fa, .inl (cI, 4096, .inl (zf (ze_fc m x fr fc)))), (sa, .inl (cI, 4096, .inl (zf ns))), (la, .inl (cI, 4096, .inl (zf li))), (t, .inl (cB, 16384, .inl ft)), (ia, .inl (cB, 16384, .inl f2))]) [3, 4, 5, 7, 0, 1, 2, 6] (by decide) rfl ?_
    refine zx_aload_n (pc := 98) C d_PK_write_98 rfl 0 rfl ?_
    refine zx_get (pc := 99) (ci := 3) (Cn := R_PK) (T := T_PK) (N := 5) (v := .ref ka) C zu_PK 0 rfl rfl 1 (by decide) zw_114 rfl rfl d_PK_write_99 ?_
    refine zx_aload_n (pc := 102) C d_PK_write_102 rfl 0 rfl ?_
    refine zx_get (pc := 103) (ci := 3) (Cn := R_PK) (T := T_PK) (N := 5) (v := .ref na) C zu_PK 0 rfl rfl 0 (by decide) zw_113 rfl rfl d_PK_write_103 ?_
    refine zx_callV (pc := 106) (ix := 57) (As := []) (b := na) (q0 := 1) (wr := [(a, .inr (3, [.ref na, .ref ka, .ref fa, .ref sa, .ref la])), (ka, .inr (1, [.ref ia, .int (nI n2), .int (nI v2), .int (nI w2)])), (fa, .inl (cI, 4096, .inl (zf (ze_fc m x fr fc)))), (sa, .inl (cI, 4096, .inl (zf ns))), (la, .inl (cI, 4096, .inl (zf li))), (t, .inl (cB, 16384, .inl ft)), (ia, .inl (cB, 16384, .inl f2))]) (st := [.ref ka]) C (zx_cw.of (C.w zw_292)) (by decide +kernel) ⟨by decide +kernel, by decide +kernel⟩ zw_290 zw_291 zw_667 rfl rfl rfl rfl rfl (k_NU_ending l D cB cI cL (zr 0 0 0) na m (nI (ze_row m r V P b x fr).2.2.1) (nI (ze_row m r V P b x fr).2.2.2.1) (zb (ze_row m r V P b x fr).2.2.2.2) (by omega)) rfl [1] [0, 2, 3, 4, 5, 6, 7] rfl rfl (by decide) (by decide) (by decide) (Nat.le_of_ble_eq_true rfl) (Nat.le_of_ble_eq_true rfl) (Nat.le_of_ble_eq_true rfl) (Nat.le_of_ble_eq_true rfl) d_PK_write_106 (fun o w1 hp => ?_)
    obtain ⟨rfl, rfl⟩ := hp
    refine zx_ri (k2 := 0) (n2 := 0) rfl rfl ?_
    refine zx_ws (ws' := [(a, .inr (3, [.ref na, .ref ka, .ref fa, .ref sa, .ref la])), (na, .inr (0, [.int (nI m), .int (nI (ze_row m r V P b x fr).2.2.1), .int (nI (ze_row m r V P b x fr).2.2.2.1), .int (zb (ze_row m r V P b x fr).2.2.2.2)])), (ka, .inr (1, [.ref ia, .int (nI n2), .int (nI v2), .int (nI w2)])), (fa, .inl (cI, 4096, .inl (zf (ze_fc m x fr fc)))), (sa, .inl (cI, 4096, .inl (zf ns))), (la, .inl (cI, 4096, .inl (zf li))), (t, .inl (cB, 16384, .inl ft)), (ia, .inl (cB, 16384, .inl f2))]) [0, 7, 1, 2, 3, 4, 5, 6] (by decide) rfl ?_
    refine zx_aload_n (pc := 109) C d_PK_write_109 rfl 0 rfl ?_
    refine zx_get (pc := 110) (ci := 3) (Cn := R_PK) (T := T_PK) (N := 5) (v := .ref na) C zu_PK 0 rfl rfl 0 (by decide) zw_113 rfl rfl d_PK_write_110 ?_
    refine zx_getN (pc := 113) (ci := 0) (Cn := R_NU) (T := T_NU) (N := 4) (v := .int (nI (ze_row m r V P b x fr).2.2.1)) C zu_NU 1 rfl rfl 1 (by decide) zw_47 rfl rfl d_PK_write_113 ?_
    refine zx_callV (pc := 116) (ix := 65) (As := [.int (nI (2 ^ m + 1)), .int (nI (ze_row m r V P b x fr).2.2.1)]) (b := ka) (q0 := 2) (wr := [(a, .inr (3, [.ref na, .ref ka, .ref fa, .ref sa, .ref la])), (na, .inr (0, [.int (nI m), .int (nI (ze_row m r V P b x fr).2.2.1), .int (nI (ze_row m r V P b x fr).2.2.2.1), .int (zb (ze_row m r V P b x fr).2.2.2.2)])), (fa, .inl (cI, 4096, .inl (zf (ze_fc m x fr fc)))), (sa, .inl (cI, 4096, .inl (zf ns))), (la, .inl (cI, 4096, .inl (zf li))), (t, .inl (cB, 16384, .inl ft))]) (st := []) C (zx_cw.of (C.w zw_378)) (by decide +kernel) ⟨by decide +kernel, by decide +kernel⟩ zw_376 zw_377 zw_375 rfl rfl rfl rfl rfl (k_BS_put l D cB cI cL hl9 ka ia n2 v2 w2 (2 ^ m + 1) (ze_row m r V P b x fr).2.2.1 (ze_row m r V P b x fr).1 (ze_row m r V P b x fr).2.1 f2 hc95.1 hc95.2.1 hc95.2.2 hEc hEb) rfl [2, 7] [0, 1, 3, 4, 5, 6] rfl rfl (by decide) (by decide) (by decide) (Nat.le_of_ble_eq_true rfl) (Nat.le_of_ble_eq_true rfl) (Nat.le_of_ble_eq_true rfl) (Nat.le_of_ble_eq_true rfl) d_PK_write_116 (fun o w1 hp => ?_)
    rcases hp with ⟨f3, n3, v3, w3, hc116, rfl, rfl⟩ | ⟨f3, n3, v3, w3, hc116, x9, rfl, rfl⟩
    · refine zx_rv (k2 := 0) (n2 := 0) rfl rfl ?_
      refine zx_ws (ws' := [(a, .inr (3, [.ref na, .ref ka, .ref fa, .ref sa, .ref la])), (na, .inr (0, [.int (nI m), .int (nI (ze_row m r V P b x fr).2.2.1), .int (nI (ze_row m r V P b x fr).2.2.2.1), .int (zb (ze_row m r V P b x fr).2.2.2.2)])), (ka, .inr (1, [.ref ia, .int (nI n3), .int (nI v3), .int (nI w3)])), (fa, .inl (cI, 4096, .inl (zf (ze_fc m x fr fc)))), (sa, .inl (cI, 4096, .inl (zf ns))), (la, .inl (cI, 4096, .inl (zf li))), (t, .inl (cB, 16384, .inl ft)), (ia, .inl (cB, 16384, .inl f3))]) [0, 1, 6, 2, 3, 4, 5, 7] (by decide) rfl ?_
      refine zx_aload_n (pc := 119) C d_PK_write_119 rfl 0 rfl ?_
      refine zx_get (pc := 120) (ci := 3) (Cn := R_PK) (T := T_PK) (N := 5) (v := .ref ka) C zu_PK 0 rfl rfl 1 (by decide) zw_114 rfl rfl d_PK_write_120 ?_
      refine zx_callV (pc := 123) (ix := 68) (As := []) (b := ka) (q0 := 2) (wr := [(a, .inr (3, [.ref na, .ref ka, .ref fa, .ref sa, .ref la])), (na, .inr (0, [.int (nI m), .int (nI (ze_row m r V P b x fr).2.2.1), .int (nI (ze_row m r V P b x fr).2.2.2.1), .int (zb (ze_row m r V P b x fr).2.2.2.2)])), (fa, .inl (cI, 4096, .inl (zf (ze_fc m x fr fc)))), (sa, .inl (cI, 4096, .inl (zf ns))), (la, .inl (cI, 4096, .inl (zf li))), (t, .inl (cB, 16384, .inl ft))]) (st := []) C (zx_cw.of (C.w zw_671)) (by decide +kernel) ⟨by decide +kernel, by decide +kernel⟩ zw_669 zw_670 zw_668 rfl rfl rfl rfl rfl (k_BS_finish l D cB cI cL hl9 ka ia n3 v3 w3 ((ze_row m r V P b x fr).1 + (2 ^ m + 1) * 2 ^ (ze_row m r V P b x fr).2.1) ((ze_row m r V P b x fr).2.1 + (ze_row m r V P b x fr).2.2.1) f3 hc116.1 hc116.2.1 hc116.2.2) rfl [2, 7] [0, 1, 3, 4, 5, 6] rfl rfl (by decide) (by decide) (by decide) (Nat.le_of_ble_eq_true rfl) (Nat.le_of_ble_eq_true rfl) (Nat.le_of_ble_eq_true rfl) (Nat.le_of_ble_eq_true rfl) d_PK_write_123 (fun o w1 hp => ?_)
      rcases hp with ⟨f4, u1, u2, hc123, rfl, rfl⟩ | ⟨f4, u0, u1, u2, hc123, x9, rfl, rfl⟩
      · refine zx_ri (k2 := 0) (n2 := 0) rfl rfl ?_
        refine zx_ws (ws' := [(a, .inr (3, [.ref na, .ref ka, .ref fa, .ref sa, .ref la])), (na, .inr (0, [.int (nI m), .int (nI (ze_row m r V P b x fr).2.2.1), .int (nI (ze_row m r V P b x fr).2.2.2.1), .int (zb (ze_row m r V P b x fr).2.2.2.2)])), (ka, .inr (1, [.ref ia, .int (nI ((((ze_row m r V P b x fr).2.1 + (ze_row m r V P b x fr).2.2.1) + 7) / 8)), .int u1, .int u2])), (fa, .inl (cI, 4096, .inl (zf (ze_fc m x fr fc)))), (sa, .inl (cI, 4096, .inl (zf ns))), (la, .inl (cI, 4096, .inl (zf li))), (t, .inl (cB, 16384, .inl ft)), (ia, .inl (cB, 16384, .inl f4))]) [0, 1, 6, 2, 3, 4, 5, 7] (by decide) rfl ?_
        exact zx_iret (pc := 126) C hr9 hlk9 (Nat.zero_le _) (Nat.zero_le _) d_PK_write_126 (r126 f2 n2 v2 w2 hc95 f3 n3 v3 w3 hc116 f4 u1 u2 hc123)
      · exact zx_rt (k2 := 1) (n2 := 6) rfl rfl (zx_wsT (ws' := [(a, .inr (3, [.ref na, .ref ka, .ref fa, .ref sa, .ref la])), (na, .inr (0, [.int (nI m), .int (nI (ze_row m r V P b x fr).2.2.1), .int (nI (ze_row m r V P b x fr).2.2.2.1), .int (zb (ze_row m r V P b x fr).2.2.2.2)])), (ka, .inr (1, [.ref ia, .int u0, .int u1, .int u2])), (fa, .inl (cI, 4096, .inl (zf (ze_fc m x fr fc)))), (sa, .inl (cI, 4096, .inl (zf ns))), (la, .inl (cI, 4096, .inl (zf li))), (t, .inl (cB, 16384, .inl ft)), (ia, .inl (cB, 16384, .inl f4)), (x9, .inr (8, []))]) [0, 1, 6, 2, 3, 4, 5, 7, 8] (by decide) rfl (zx_leave hlk9 (zx_noTab ht9 _) (Nat.le_of_ble_eq_true rfl) (Nat.le_of_ble_eq_true rfl) (t123 f2 n2 v2 w2 hc95 f3 n3 v3 w3 hc116 f4 u0 u1 u2 hc123 x9)))
    · exact zx_rt (k2 := 1) (n2 := 6) rfl rfl (zx_wsT (ws' := [(a, .inr (3, [.ref na, .ref ka, .ref fa, .ref sa, .ref la])), (na, .inr (0, [.int (nI m), .int (nI (ze_row m r V P b x fr).2.2.1), .int (nI (ze_row m r V P b x fr).2.2.2.1), .int (zb (ze_row m r V P b x fr).2.2.2.2)])), (ka, .inr (1, [.ref ia, .int (nI n3), .int (nI v3), .int (nI w3)])), (fa, .inl (cI, 4096, .inl (zf (ze_fc m x fr fc)))), (sa, .inl (cI, 4096, .inl (zf ns))), (la, .inl (cI, 4096, .inl (zf li))), (t, .inl (cB, 16384, .inl ft)), (ia, .inl (cB, 16384, .inl f3)), (x9, .inr (8, []))]) [0, 1, 6, 2, 3, 4, 5, 7, 8] (by decide) rfl (zx_leave hlk9 (zx_noTab ht9 _) (Nat.le_of_ble_eq_true rfl) (Nat.le_of_ble_eq_true rfl) (t116 f2 n2 v2 w2 hc95 f3 n3 v3 w3 hc116 x9)))
  · exact zx_rt (k2 := 1) (n2 := 6) rfl rfl (zx_wsT (ws' := [(a, .inr (3, [.ref na, .ref ka, .ref fa, .ref sa, .ref la])), (na, .inr (0, [.int (nI m), .int b7, .int x7, .int f7])), (ka, .inr (1, [.ref ia, .int (nI n2), .int (nI v2), .int (nI w2)])), (fa, .inl (cI, 4096, .inl (zf fc7))), (sa, .inl (cI, 4096, .inl (zf ns))), (la, .inl (cI, 4096, .inl (zf li))), (t, .inl (cB, 16384, .inl ft)), (ia, .inl (cB, 16384, .inl f2)), (x9, .inr (8, []))]) [3, 4, 5, 7, 0, 1, 2, 6, 8] (by decide) rfl (zx_leave hlk9 (zx_noTab ht9 _) (Nat.le_of_ble_eq_true rfl) (Nat.le_of_ble_eq_true rfl) (t95 f2 n2 v2 w2 b7 x7 f7 fc7 hc95 x9)))

/-- what write gives, by the writer's function -/
def zp_write (a na ka t ia fa sa la : Nat) (ft : Nat → Int32) (VP : Nat × Nat) (cB cI : ClassId) : Outcome → va_W → Prop := fun o w =>
  (∃ (m1 b1 x1 f1 u0 u1 u2 : Int32) (fc ns li : Nat → Nat) (f : Nat → Int32), ((VP.2 + 7) / 8 ≤ 16384 ∧ (∀ j, j < (VP.2 + 7) / 8 → f j = zby (VP.1 / 256 ^ j)) ∧ (∀ j, fc j < 4096) ∧ (∀ j, ns j < 4096) ∧ (∀ j, li j < 256) ∧ (∀ j, vp_nar .byte (f j) = f j)) ∧ o = .returned (some (.int (nI ((VP.2 + 7) / 8)))) ∧ w = [(a, .inr (3, [.ref na, .ref ka, .ref fa, .ref sa, .ref la])), (na, .inr (0, [.int m1, .int b1, .int x1, .int f1])), (ka, .inr (1, [.ref ia, .int u0, .int u1, .int u2])), (fa, .inl (cI, 4096, .inl (zf fc))), (sa, .inl (cI, 4096, .inl (zf ns))), (la, .inl (cI, 4096, .inl (zf li))), (t, .inl (cB, 16384, .inl ft)), (ia, .inl (cB, 16384, .inl f))]) ∨
  (∃ (m1 b1 x1 f1 u0 u1 u2 : Int32) (fc ns li : Nat → Nat) (f : Nat → Int32), (16384 < (VP.2 + 7) / 8 ∧ (∀ j, fc j < 4096) ∧ (∀ j, ns j < 4096) ∧ (∀ j, li j < 256) ∧ (∀ j, vp_nar .byte (f j) = f j)) ∧ ∃ x0 : Nat, o = .threw x0 ∧ w = [(a, .inr (3, [.ref na, .ref ka, .ref fa, .ref sa, .ref la])), (na, .inr (0, [.int m1, .int b1, .int x1, .int f1])), (ka, .inr (1, [.ref ia, .int u0, .int u1, .int u2])), (fa, .inl (cI, 4096, .inl (zf fc))), (sa, .inl (cI, 4096, .inl (zf ns))), (la, .inl (cI, 4096, .inl (zf li))), (t, .inl (cB, 16384, .inl ft)), (ia, .inl (cB, 16384, .inl f)), (x0, .inr (8, []))])
set_option maxHeartbeats 2000000 in
theorem k_PK_write (l : Launch) (D : va_G) (cB cI cL : ClassId) (hl : l.stackTraces = false) (a na ka qb ia t fa sa la m n8 : Nat) (fc0 ns0 li0 : Nat → Nat) (ft f0 : Nat → Int32) (m9 b9 x9 f9 n9 w9 v9 : Int32) (hm : 2 ≤ m ∧ m ≤ 8) (hn8 : 1 ≤ n8 ∧ n8 ≤ 16384) (hix : ∀ j, j < n8 → zu (ft j) < 2 ^ m) (hfc0 : ∀ j, fc0 j < 4096) (hns0 : ∀ j, ns0 j < 4096) (hli0 : ∀ j, li0 j < 256) (hby0 : ∀ j, vp_nar .byte (f0 j) = f0 j) : zx_K l zB D zcl (zt cB cI cL) y_PK_write b_PK_write 9 (some .int) [] 0 0 (zr 12 1 6) [.ref a, .ref t, .int (nI n8), .int (nI m), .ref ia] [(a, .inr (3, [.ref na, .ref ka, .ref fa, .ref sa, .ref la])), (na, .inr (0, [.int m9, .int b9, .int x9, .int f9])), (ka, .inr (1, [.ref qb, .int n9, .int w9, .int v9])), (fa, .inl (cI, 4096, .inl (zf fc0))), (sa, .inl (cI, 4096, .inl (zf ns0))), (la, .inl (cI, 4096, .inl (zf li0))), (t, .inl (cB, 16384, .inl ft)), (ia, .inl (cB, 16384, .inl f0))] (zp_write a na ka t ia fa sa la ft (ze_run m (fun j => zu (ft j)) (n8 - 1) 1 (zu (ft 0)) (2 ^ m) (m + 1) (m + 1) (2 ^ m + 2) true (fun _ _ => 0)) cB cI) := by
  refine zx_K.mk (Nat.le_of_ble_eq_true rfl) (fun p e s mm below meth c9 C hr hlk ht hnm => ?_)
  have hp8 := zp_pow8 hm.2
  have loop : ∀ (d i r V P b x : Nat) (fr : Bool) (ch : Nat → Nat → Nat) (fc ns li : Nat → Nat) (f : Nat → Int32) (n v wb : Nat), i + d = n8 → ze_inv m b x fr → zt_ok m (ze_top x fr) fc ns li ch → (∀ q i', ze_top x fr ≤ q → ch q i' = 0) → zval m (ze_top x fr) r → (∀ j, fc j < 4096) → (∀ j, ns j < 4096) → (∀ j, li j < 256) → zS f n v wb V P → wb < 8 → n ≤ 16384 → ze_run m (fun j => zu (ft j)) d i r V P b x fr ch = (ze_run m (fun j => zu (ft j)) (n8 - 1) 1 (zu (ft 0)) (2 ^ m) (m + 1) (m + 1) (2 ^ m + 2) true (fun _ _ => 0)) → zx_At p l e (zr 12 1 6) s mm (([.ref a, .ref t, .int (nI n8), .int (nI m), .ref ia] : List Value)).toArray below meth c9 (zx_Q below s D zcl [(a, .inr (3, [.ref na, .ref ka, .ref fa, .ref sa, .ref la])), (na, .inr (0, [.int m9, .int b9, .int x9, .int f9])), (ka, .inr (1, [.ref qb, .int n9, .int w9, .int v9])), (fa, .inl (cI, 4096, .inl (zf fc0))), (sa, .inl (cI, 4096, .inl (zf ns0))), (la, .inl (cI, 4096, .inl (zf li0))), (t, .inl (cB, 16384, .inl ft)), (ia, .inl (cB, 16384, .inl f0))] 0 0 (zr 12 1 6) (zp_write a na ka t ia fa sa la ft (ze_run m (fun j => zu (ft j)) (n8 - 1) 1 (zu (ft 0)) (2 ^ m) (m + 1) (m + 1) (2 ^ m + 2) true (fun _ _ => 0)) cB cI)) D zcl (va_A [(a, .inr (3, [.ref na, .ref ka, .ref fa, .ref sa, .ref la])), (na, .inr (0, [.int m9, .int b9, .int x9, .int f9])), (ka, .inr (1, [.ref qb, .int n9, .int w9, .int v9])), (fa, .inl (cI, 4096, .inl (zf fc0))), (sa, .inl (cI, 4096, .inl (zf ns0))), (la, .inl (cI, 4096, .inl (zf li0))), (t, .inl (cB, 16384, .inl ft)), (ia, .inl (cB, 16384, .inl f0))] s.heap.size) 9 [(0, .ref a), (1, .ref t), (2, .int (nI n8)), (3, .int (nI m)), (4, .ref ia), (5, .int (nI r)), (6, .int (nI i))] [(a, .inr (3, [.ref na, .ref ka, .ref fa, .ref sa, .ref la])), (na, .inr (0, [.int (nI m), .int (nI b), .int (nI x), .int (zb fr)])), (ka, .inr (1, [.ref ia, .int (nI n), .int (nI v), .int (nI wb)])), (fa, .inl (cI, 4096, .inl (zf fc))), (sa, .inl (cI, 4096, .inl (zf ns))), (la, .inl (cI, 4096, .inl (zf li))), (t, .inl (cB, 16384, .inl ft)), (ia, .inl (cB, 16384, .inl f))] 0 0 33 [] := by
    intro d
    induction d with
    | zero =>
      intro i r V P b x fr ch fc ns li f n v wb hd hi htr hz0 hr0 hfc hns hli hzs hwb hn hrun
      have hi2 := hi
      obtain ⟨hb1, hx1, hxb, hfr⟩ := hi2
      have hrx : r ≤ x := by
        rcases hr0 with q | q
        · omega
        · have q2 := q.2
          unfold ze_top at q2
          split at q2 <;> omega
      have hrb : r < 2 ^ b := by omega
      have hE := ze_inv_row hm hi r V P
      have hEx : (ze_row m r V P b x fr).2.2.2.1 < 4096 := by have := hE.2.1.2; omega
      have hrE : (ze_row m r V P b x fr).2.2.2.2 = false → r ≠ (ze_row m r V P b x fr).2.2.2.1 := fun q z => by
        rw [(ze_child (by omega) fc q).1] at z
        rcases hr0 with y | y
        · have : x ≤ ze_top x fr := by unfold ze_top; split <;> omega
          omega
        · omega
      have key : nI n8 ≤ nI i := by rw [show i = n8 by omega]; exact Int32.le_refl _
      rw [ze_run] at hrun
      refine sg_PK_write33 C hm.2 hb1.2 hb1.1 (by omega) hrb hfc hzs hwb hn (by omega) hns hli hEx hrE hr hlk hl ht (fun _ => ?_) (fun z => absurd key z) (fun z => absurd key z) (fun z => absurd key z) (fun z => absurd key z) (fun z => absurd key z) (fun z => absurd key z) (fun z => absurd key z) (fun z => absurd key z) (fun z => absurd key z)
      refine sg_PK_write92 C hm.2 hb1.2 hb1.1 (by omega) hrb hfc hzs hwb hn hE.1.2 (by have h1 := hE.2.1.1; have h2 := hE.2.2.1; omega) hr hlk hl ht (fun f2 n2 v2 w2 _ f3 n3 v3 w3 _ f4 u1 u2 h => ?_) (fun f2 n2 v2 w2 _ f3 n3 v3 w3 _ f4 u0 u1 u2 h x0 => ?_) (fun f2 n2 v2 w2 _ f3 n3 v3 w3 h x0 => ?_) (fun f2 n2 v2 w2 b7 x7 f7 fc7 h x0 => ?_)
      · rw [← hrun]
        exact Or.inl ⟨_, _, _, _, _, _, _, _, _, _, _, ⟨h.1.1, h.1.2, ze_fc_lt hfc, hns, hli, h.2⟩, rfl, rfl⟩
      · rw [← hrun]
        exact Or.inr ⟨_, _, _, _, _, _, _, _, _, _, _, ⟨h.1, ze_fc_lt hfc, hns, hli, h.2⟩, x0, rfl, rfl⟩
      · rw [← hrun]
        exact Or.inr ⟨_, _, _, _, _, _, _, _, _, _, _, ⟨by have := h.1; show 16384 < (_ + 7) / 8; omega, ze_fc_lt hfc, hns, hli, h.2⟩, x0, rfl, rfl⟩
      · rw [← hrun]
        exact Or.inr ⟨_, _, _, _, _, _, _, _, _, _, _, ⟨by have := h.1; show 16384 < (_ + 7) / 8; omega, h.2.1, hns, hli, h.2.2⟩, x0, rfl, rfl⟩
    | succ d ih =>
      intro i r V P b x fr ch fc ns li f n v wb hd hi htr hz0 hr0 hfc hns hli hzs hwb hn hrun
      have hi2 := hi
      obtain ⟨hb1, hx1, hxb, hfr⟩ := hi2
      have hrx : r ≤ x := by
        rcases hr0 with q | q
        · omega
        · have q2 := q.2
          unfold ze_top at q2
          split at q2 <;> omega
      have hrb : r < 2 ^ b := by omega
      have hE := ze_inv_row hm hi r V P
      have hEx : (ze_row m r V P b x fr).2.2.2.1 < 4096 := by have := hE.2.1.2; omega
      have hrE : (ze_row m r V P b x fr).2.2.2.2 = false → r ≠ (ze_row m r V P b x fr).2.2.2.1 := fun q z => by
        rw [(ze_child (by omega) fc q).1] at z
        rcases hr0 with y | y
        · have : x ≤ ze_top x fr := by unfold ze_top; split <;> omega
          omega
        · omega
      have nk : ¬ nI n8 ≤ nI i := fun z => absurd ((nI_leI (by omega) (by omega)).mp z) (by omega)
      have htop : ze_top x fr ≤ 4096 := by unfold ze_top; split <;> omega
      have hfind := zt_find htr htop hr0 (zu (ft i))
      have hch4 : ch r (zu (ft i)) < 4096 ∨ ch r (zu (ft i)) = 0 := by
        by_cases q : ch r (zu (ft i)) = 0
        · exact Or.inr q
        · rcases zt_val htr hr0 q with y | y
          · left; omega
          · left; omega
      have k0 : nI (zk_find ns li (zu (ft i)) 4096 (fc r)) = 0 ↔ ch r (zu (ft i)) = 0 := by
        rw [hfind]
        exact zp_eq (k := 0) (K := 0) rfl (by omega) (by decide)
      have hixi := hix i (by omega)
      rw [ze_run] at hrun
      refine sg_PK_write33 C hm.2 hb1.2 hb1.1 (by omega) hrb hfc hzs hwb hn (by omega) hns hli hEx hrE hr hlk hl ht (fun z => absurd z nk) (fun _ => ⟨rfl, by omega⟩) (fun _ => zu_and _) (fun _ _ => nI_1 i) (fun _ z => ?_) (fun _ _ _ _ _ _ _ _ => nI_1 i) (fun _ z f2 n2 v2 w2 h hE1 => ?_) (fun _ _ _ _ _ _ _ _ => nI_1 i) (fun _ z f2 n2 v2 w2 h hE1 => ?_) (fun _ z f2 n2 v2 w2 b7 x7 f7 fc7 h x0 => ?_)
      · have hne := mt k0.mpr z
        rw [if_neg hne] at hrun
        rw [hfind]
        exact ih (i + 1) _ V P b x fr ch fc ns li f n v wb (by omega) hi htr hz0 (zt_val htr hr0 hne) hfc hns hli hzs hwb hn hrun
      · rw [if_pos (k0.mp z)] at hrun
        refine ih (i + 1) _ _ _ _ _ _ _ _ ns li f2 n2 v2 w2 (by omega) hE ?_ ?_ (Or.inl hixi) (ze_fc_lt hfc) hns hli h.1 h.2.1 h.2.2 hrun
        · rw [(ze_full fc hE1).2, zk_ch, if_pos hE1, ze_top, if_pos hE1, (ze_full fc hE1).1]
          exact zt_clr m fc ns li
        · intro q i' _
          rw [zk_ch, if_pos hE1]
      · rw [if_pos (k0.mp z)] at hrun
        have hnt : ¬ (ze_row m r V P b x fr).2.2.2.2 = true := by rw [hE1]; exact Bool.false_ne_true
        obtain ⟨e1, e2⟩ := ze_child (m := m) (b := b) (r := r) (V := V) (P := P) (show x ≤ 4095 by omega) fc hE1
        have hxt : x ≤ ze_top x fr := by unfold ze_top; split <;> omega
        refine ih (i + 1) _ _ _ _ _ _ _ _ _ _ f2 n2 v2 w2 (by omega) hE ?_ ?_ (Or.inl hixi) (updN_lt (updN_lt (ze_fc_lt hfc) (by decide)) hEx) (updN_lt hns (ze_fc_lt hfc r)) (updN_lt hli (zu_lt _)) h.1 h.2.1 h.2.2 hrun
        · rw [e2, zk_ch, if_neg hnt, ze_top, if_neg hnt, e1]
          exact zt_add htr (by omega) (fun i' => hz0 _ i' (Nat.le_refl _)) hr0
        · intro q i' hq
          rw [ze_top, if_neg hnt, e1] at hq
          rw [zk_ch, if_neg hnt, zk_add, if_neg (fun y => by have := y.1; omega)]
          exact hz0 q i' (by omega)
      · rw [if_pos (k0.mp z)] at hrun
        have hP := ze_run_P m (fun j => zu (ft j)) d (i + 1) (zu (ft i)) (ze_row m r V P b x fr).1 (ze_row m r V P b x fr).2.1 (ze_row m r V P b x fr).2.2.1 (ze_row m r V P b x fr).2.2.2.1 (ze_row m r V P b x fr).2.2.2.2 (zk_ch (ze_row m r V P b x fr).2.2.2.2 ch r (zu (ft i)) (ze_row m r V P b x fr).2.2.2.1)
        rw [hrun] at hP
        exact Or.inr ⟨_, _, _, _, _, _, _, _, _, _, _, ⟨by have := h.1; omega, h.2.1, hns, hli, h.2.2⟩, x0, rfl, rfl⟩
  refine sg_PK_write0 C hm.2 hby0 hr hlk hl ht (fun _ _ _ _ _ => ⟨rfl, by decide⟩) (fun _ _ _ _ _ => zu_and _) (fun f2 n2 v2 w2 h => ?_) (fun f2 n2 v2 w2 h x0 => absurd h.1 (by omega))
  have h1 := h.1
  rw [show 0 + 2 ^ m * 2 ^ 0 = 2 ^ m by simp, Nat.zero_add] at h1
  exact loop (n8 - 1) 1 (zu (ft 0)) (2 ^ m) (m + 1) (m + 1) (2 ^ m + 2) true (fun _ _ => 0) (zk_clr m fc0) ns0 li0 f2 n2 v2 w2 (by omega) (ze_inv_new hm) (zt_clr m fc0 ns0 li0) (fun _ _ _ => rfl) (Or.inl (hix 0 (by omega))) (zk_clr_lt hfc0) hns0 hli0 h1 h.2.1 h.2.2 rfl
end
section
theorem d_LB_init_0 : decode b_LB_init 0 = .ok (.aload_n 0, 1) := by decide +kernel
theorem d_LB_init_1 : decode b_LB_init 1 = .ok (.invokespecial 1, 3) := by decide +kernel
theorem d_LB_init_4 : decode b_LB_init 4 = .ok (.aload_n 0, 1) := by decide +kernel
theorem d_LB_init_5 : decode b_LB_init 5 = .ok (.sipush 16384, 3) := by decide +kernel
theorem d_LB_init_8 : decode b_LB_init 8 = .ok (.newarray .byte, 2) := by decide +kernel
theorem d_LB_init_10 : decode b_LB_init 10 = .ok (.putfield 9, 3) := by decide +kernel
theorem d_LB_init_13 : decode b_LB_init 13 = .ok (.aload_n 0, 1) := by decide +kernel
theorem d_LB_init_14 : decode b_LB_init 14 = .ok (.sipush 16384, 3) := by decide +kernel
theorem d_LB_init_17 : decode b_LB_init 17 = .ok (.newarray .byte, 2) := by decide +kernel
theorem d_LB_init_19 : decode b_LB_init 19 = .ok (.putfield 13, 3) := by decide +kernel
theorem d_LB_init_22 : decode b_LB_init 22 = .ok (.aload_n 0, 1) := by decide +kernel
theorem d_LB_init_23 : decode b_LB_init 23 = .ok (.sipush 16384, 3) := by decide +kernel
theorem d_LB_init_26 : decode b_LB_init 26 = .ok (.newarray .byte, 2) := by decide +kernel
theorem d_LB_init_28 : decode b_LB_init 28 = .ok (.putfield 16, 3) := by decide +kernel
theorem d_LB_init_31 : decode b_LB_init 31 = .ok (.aload_n 0, 1) := by decide +kernel
theorem d_LB_init_32 : decode b_LB_init 32 = .ok (.iconst 0, 1) := by decide +kernel
theorem d_LB_init_33 : decode b_LB_init 33 = .ok (.putfield 19, 3) := by decide +kernel
theorem d_LB_init_36 : decode b_LB_init 36 = .ok (.aload_n 0, 1) := by decide +kernel
theorem d_LB_init_37 : decode b_LB_init 37 = .ok (.iconst 0, 1) := by decide +kernel
theorem d_LB_init_38 : decode b_LB_init 38 = .ok (.putfield 23, 3) := by decide +kernel
theorem d_LB_init_41 : decode b_LB_init 41 = .ok (.aload_n 0, 1) := by decide +kernel
theorem d_LB_init_42 : decode b_LB_init 42 = .ok (.new 26, 3) := by decide +kernel
theorem d_LB_init_45 : decode b_LB_init 45 = .ok (.dup, 1) := by decide +kernel
theorem d_LB_init_46 : decode b_LB_init 46 = .ok (.invokespecial 28, 3) := by decide +kernel
theorem d_LB_init_49 : decode b_LB_init 49 = .ok (.putfield 29, 3) := by decide +kernel
theorem d_LB_init_52 : decode b_LB_init 52 = .ok (.aload_n 0, 1) := by decide +kernel
theorem d_LB_init_53 : decode b_LB_init 53 = .ok (.new 33, 3) := by decide +kernel
theorem d_LB_init_56 : decode b_LB_init 56 = .ok (.dup, 1) := by decide +kernel
theorem d_LB_init_57 : decode b_LB_init 57 = .ok (.invokespecial 35, 3) := by decide +kernel
theorem d_LB_init_60 : decode b_LB_init 60 = .ok (.putfield 36, 3) := by decide +kernel
theorem d_LB_init_63 : decode b_LB_init 63 = .ok (.return_, 1) := by decide +kernel
theorem d_LB_feed_0 : decode b_LB_feed 0 = .ok (.aload_n 0, 1) := by decide +kernel
theorem d_LB_feed_1 : decode b_LB_feed 1 = .ok (.getfield 19, 3) := by decide +kernel
theorem d_LB_feed_4 : decode b_LB_feed 4 = .ok (.sipush 16364, 3) := by decide +kernel
theorem d_LB_feed_7 : decode b_LB_feed 7 = .ok (.if_icmp .le 13, 3) := by decide +kernel
theorem d_LB_feed_10 : decode b_LB_feed 10 = .ok (.new 40, 3) := by decide +kernel
theorem d_LB_feed_13 : decode b_LB_feed 13 = .ok (.dup, 1) := by decide +kernel
theorem d_LB_feed_14 : decode b_LB_feed 14 = .ok (.ldc 42, 2) := by decide +kernel
theorem d_LB_feed_16 : decode b_LB_feed 16 = .ok (.invokespecial 44, 3) := by decide +kernel
theorem d_LB_feed_19 : decode b_LB_feed 19 = .ok (.athrow, 1) := by decide +kernel
theorem d_LB_feed_20 : decode b_LB_feed 20 = .ok (.aload_n 0, 1) := by decide +kernel
theorem d_LB_feed_21 : decode b_LB_feed 21 = .ok (.iload_n 1, 1) := by decide +kernel
theorem d_LB_feed_22 : decode b_LB_feed 22 = .ok (.invokevirtual 47, 3) := by decide +kernel
theorem d_LB_feed_25 : decode b_LB_feed 25 = .ok (.aload_n 0, 1) := by decide +kernel
theorem d_LB_feed_26 : decode b_LB_feed 26 = .ok (.iload_n 2, 1) := by decide +kernel
theorem d_LB_feed_27 : decode b_LB_feed 27 = .ok (.invokevirtual 47, 3) := by decide +kernel
theorem d_LB_feed_30 : decode b_LB_feed 30 = .ok (.aload_n 0, 1) := by decide +kernel
theorem d_LB_feed_31 : decode b_LB_feed 31 = .ok (.iload_n 3, 1) := by decide +kernel
theorem d_LB_feed_32 : decode b_LB_feed 32 = .ok (.invokevirtual 47, 3) := by decide +kernel
theorem d_LB_feed_35 : decode b_LB_feed 35 = .ok (.aload_n 0, 1) := by decide +kernel
theorem d_LB_feed_36 : decode b_LB_feed 36 = .ok (.iload 4, 2) := by decide +kernel
theorem d_LB_feed_38 : decode b_LB_feed 38 = .ok (.invokevirtual 47, 3) := by decide +kernel
theorem d_LB_feed_41 : decode b_LB_feed 41 = .ok (.aload_n 0, 1) := by decide +kernel
theorem d_LB_feed_42 : decode b_LB_feed 42 = .ok (.iload 5, 2) := by decide +kernel
theorem d_LB_feed_44 : decode b_LB_feed 44 = .ok (.invokevirtual 47, 3) := by decide +kernel
theorem d_LB_feed_47 : decode b_LB_feed 47 = .ok (.aload_n 0, 1) := by decide +kernel
theorem d_LB_feed_48 : decode b_LB_feed 48 = .ok (.getfield 19, 3) := by decide +kernel
theorem d_LB_feed_51 : decode b_LB_feed 51 = .ok (.ireturn, 1) := by decide +kernel
theorem d_LB_end_0 : decode b_LB_end 0 = .ok (.iload_n 1, 1) := by decide +kernel
theorem d_LB_end_1 : decode b_LB_end 1 = .ok (.ifCond .lt 11, 3) := by decide +kernel
theorem d_LB_end_4 : decode b_LB_end 4 = .ok (.iload_n 1, 1) := by decide +kernel
theorem d_LB_end_5 : decode b_LB_end 5 = .ok (.aload_n 0, 1) := by decide +kernel
theorem d_LB_end_6 : decode b_LB_end 6 = .ok (.getfield 19, 3) := by decide +kernel
theorem d_LB_end_9 : decode b_LB_end 9 = .ok (.if_icmp .le 13, 3) := by decide +kernel
theorem d_LB_end_12 : decode b_LB_end 12 = .ok (.new 51, 3) := by decide +kernel
theorem d_LB_end_15 : decode b_LB_end 15 = .ok (.dup, 1) := by decide +kernel
theorem d_LB_end_16 : decode b_LB_end 16 = .ok (.ldc 53, 2) := by decide +kernel
theorem d_LB_end_18 : decode b_LB_end 18 = .ok (.invokespecial 55, 3) := by decide +kernel
theorem d_LB_end_21 : decode b_LB_end 21 = .ok (.athrow, 1) := by decide +kernel
theorem d_LB_end_22 : decode b_LB_end 22 = .ok (.aload_n 0, 1) := by decide +kernel
theorem d_LB_end_23 : decode b_LB_end 23 = .ok (.iload_n 1, 1) := by decide +kernel
theorem d_LB_end_24 : decode b_LB_end 24 = .ok (.putfield 19, 3) := by decide +kernel
theorem d_LB_end_27 : decode b_LB_end 27 = .ok (.aload_n 0, 1) := by decide +kernel
theorem d_LB_end_28 : decode b_LB_end 28 = .ok (.getfield 19, 3) := by decide +kernel
theorem d_LB_end_31 : decode b_LB_end 31 = .ok (.ireturn, 1) := by decide +kernel
theorem d_LB_again_0 : decode b_LB_again 0 = .ok (.aload_n 0, 1) := by decide +kernel
theorem d_LB_again_1 : decode b_LB_again 1 = .ok (.getfield 13, 3) := by decide +kernel
theorem d_LB_again_4 : decode b_LB_again 4 = .ok (.iconst 0, 1) := by decide +kernel
theorem d_LB_again_5 : decode b_LB_again 5 = .ok (.aload_n 0, 1) := by decide +kernel
theorem d_LB_again_6 : decode b_LB_again 6 = .ok (.getfield 9, 3) := by decide +kernel
theorem d_LB_again_9 : decode b_LB_again 9 = .ok (.iconst 0, 1) := by decide +kernel
theorem d_LB_again_10 : decode b_LB_again 10 = .ok (.aload_n 0, 1) := by decide +kernel
theorem d_LB_again_11 : decode b_LB_again 11 = .ok (.getfield 23, 3) := by decide +kernel
theorem d_LB_again_14 : decode b_LB_again 14 = .ok (.invokestatic 56, 3) := by decide +kernel
theorem d_LB_again_17 : decode b_LB_again 17 = .ok (.aload_n 0, 1) := by decide +kernel
theorem d_LB_again_18 : decode b_LB_again 18 = .ok (.aload_n 0, 1) := by decide +kernel
theorem d_LB_again_19 : decode b_LB_again 19 = .ok (.getfield 23, 3) := by decide +kernel
theorem d_LB_again_22 : decode b_LB_again 22 = .ok (.putfield 19, 3) := by decide +kernel
theorem d_LB_again_25 : decode b_LB_again 25 = .ok (.aload_n 0, 1) := by decide +kernel
theorem d_LB_again_26 : decode b_LB_again 26 = .ok (.getfield 19, 3) := by decide +kernel
theorem d_LB_again_29 : decode b_LB_again 29 = .ok (.ireturn, 1) := by decide +kernel
theorem d_LB_unpack_0 : decode b_LB_unpack 0 = .ok (.iload_n 1, 1) := by decide +kernel
theorem d_LB_unpack_1 : decode b_LB_unpack 1 = .ok (.invokestatic 62, 3) := by decide +kernel
theorem d_LB_unpack_4 : decode b_LB_unpack 4 = .ok (.aload_n 0, 1) := by decide +kernel
theorem d_LB_unpack_5 : decode b_LB_unpack 5 = .ok (.getfield 19, 3) := by decide +kernel
theorem d_LB_unpack_8 : decode b_LB_unpack 8 = .ok (.istore_n 2, 1) := by decide +kernel
theorem d_LB_unpack_9 : decode b_LB_unpack 9 = .ok (.aload_n 0, 1) := by decide +kernel
theorem d_LB_unpack_10 : decode b_LB_unpack 10 = .ok (.iconst 0, 1) := by decide +kernel
theorem d_LB_unpack_11 : decode b_LB_unpack 11 = .ok (.putfield 19, 3) := by decide +kernel
theorem d_LB_unpack_14 : decode b_LB_unpack 14 = .ok (.aload_n 0, 1) := by decide +kernel
theorem d_LB_unpack_15 : decode b_LB_unpack 15 = .ok (.aload_n 0, 1) := by decide +kernel
theorem d_LB_unpack_16 : decode b_LB_unpack 16 = .ok (.getfield 29, 3) := by decide +kernel
theorem d_LB_unpack_19 : decode b_LB_unpack 19 = .ok (.aload_n 0, 1) := by decide +kernel
theorem d_LB_unpack_20 : decode b_LB_unpack 20 = .ok (.getfield 9, 3) := by decide +kernel
theorem d_LB_unpack_23 : decode b_LB_unpack 23 = .ok (.iload_n 2, 1) := by decide +kernel
theorem d_LB_unpack_24 : decode b_LB_unpack 24 = .ok (.iload_n 1, 1) := by decide +kernel
theorem d_LB_unpack_25 : decode b_LB_unpack 25 = .ok (.aload_n 0, 1) := by decide +kernel
theorem d_LB_unpack_26 : decode b_LB_unpack 26 = .ok (.getfield 16, 3) := by decide +kernel
theorem d_LB_unpack_29 : decode b_LB_unpack 29 = .ok (.invokevirtual 65, 3) := by decide +kernel
theorem d_LB_unpack_32 : decode b_LB_unpack 32 = .ok (.invokevirtual 69, 3) := by decide +kernel
theorem d_LB_unpack_35 : decode b_LB_unpack 35 = .ok (.aload_n 0, 1) := by decide +kernel
theorem d_LB_unpack_36 : decode b_LB_unpack 36 = .ok (.getfield 23, 3) := by decide +kernel
theorem d_LB_unpack_39 : decode b_LB_unpack 39 = .ok (.ireturn, 1) := by decide +kernel
theorem d_LB_pack_0 : decode b_LB_pack 0 = .ok (.iload_n 1, 1) := by decide +kernel
theorem d_LB_pack_1 : decode b_LB_pack 1 = .ok (.invokestatic 62, 3) := by decide +kernel
theorem d_LB_pack_4 : decode b_LB_pack 4 = .ok (.aload_n 0, 1) := by decide +kernel
theorem d_LB_pack_5 : decode b_LB_pack 5 = .ok (.iload_n 1, 1) := by decide +kernel
theorem d_LB_pack_6 : decode b_LB_pack 6 = .ok (.invokevirtual 72, 3) := by decide +kernel
theorem d_LB_pack_9 : decode b_LB_pack 9 = .ok (.ifCond .ne 13, 3) := by decide +kernel
theorem d_LB_pack_12 : decode b_LB_pack 12 = .ok (.new 76, 3) := by decide +kernel
theorem d_LB_pack_15 : decode b_LB_pack 15 = .ok (.dup, 1) := by decide +kernel
theorem d_LB_pack_16 : decode b_LB_pack 16 = .ok (.ldc 78, 2) := by decide +kernel
theorem d_LB_pack_18 : decode b_LB_pack 18 = .ok (.invokespecial 80, 3) := by decide +kernel
theorem d_LB_pack_21 : decode b_LB_pack 21 = .ok (.athrow, 1) := by decide +kernel
theorem d_LB_pack_22 : decode b_LB_pack 22 = .ok (.aload_n 0, 1) := by decide +kernel
theorem d_LB_pack_23 : decode b_LB_pack 23 = .ok (.aload_n 0, 1) := by decide +kernel
theorem d_LB_pack_24 : decode b_LB_pack 24 = .ok (.getfield 36, 3) := by decide +kernel
theorem d_LB_pack_27 : decode b_LB_pack 27 = .ok (.aload_n 0, 1) := by decide +kernel
theorem d_LB_pack_28 : decode b_LB_pack 28 = .ok (.getfield 9, 3) := by decide +kernel
theorem d_LB_pack_31 : decode b_LB_pack 31 = .ok (.aload_n 0, 1) := by decide +kernel
theorem d_LB_pack_32 : decode b_LB_pack 32 = .ok (.getfield 19, 3) := by decide +kernel
theorem d_LB_pack_35 : decode b_LB_pack 35 = .ok (.iload_n 1, 1) := by decide +kernel
theorem d_LB_pack_36 : decode b_LB_pack 36 = .ok (.aload_n 0, 1) := by decide +kernel
theorem d_LB_pack_37 : decode b_LB_pack 37 = .ok (.getfield 16, 3) := by decide +kernel
theorem d_LB_pack_40 : decode b_LB_pack 40 = .ok (.invokevirtual 81, 3) := by decide +kernel
theorem d_LB_pack_43 : decode b_LB_pack 43 = .ok (.invokevirtual 69, 3) := by decide +kernel
theorem d_LB_pack_46 : decode b_LB_pack 46 = .ok (.aload_n 0, 1) := by decide +kernel
theorem d_LB_pack_47 : decode b_LB_pack 47 = .ok (.getfield 23, 3) := by decide +kernel
theorem d_LB_pack_50 : decode b_LB_pack 50 = .ok (.ireturn, 1) := by decide +kernel
theorem d_LB_mask_0 : decode b_LB_mask 0 = .ok (.iload_n 1, 1) := by decide +kernel
theorem d_LB_mask_1 : decode b_LB_mask 1 = .ok (.invokestatic 62, 3) := by decide +kernel
theorem d_LB_mask_4 : decode b_LB_mask 4 = .ok (.iconst 1, 1) := by decide +kernel
theorem d_LB_mask_5 : decode b_LB_mask 5 = .ok (.iload_n 1, 1) := by decide +kernel
theorem d_LB_mask_6 : decode b_LB_mask 6 = .ok (.ishl, 1) := by decide +kernel
theorem d_LB_mask_7 : decode b_LB_mask 7 = .ok (.iconst 1, 1) := by decide +kernel
theorem d_LB_mask_8 : decode b_LB_mask 8 = .ok (.isub, 1) := by decide +kernel
theorem d_LB_mask_9 : decode b_LB_mask 9 = .ok (.istore_n 2, 1) := by decide +kernel
theorem d_LB_mask_10 : decode b_LB_mask 10 = .ok (.iconst 0, 1) := by decide +kernel
theorem d_LB_mask_11 : decode b_LB_mask 11 = .ok (.istore_n 3, 1) := by decide +kernel
theorem d_LB_mask_12 : decode b_LB_mask 12 = .ok (.iload_n 3, 1) := by decide +kernel
theorem d_LB_mask_13 : decode b_LB_mask 13 = .ok (.aload_n 0, 1) := by decide +kernel
theorem d_LB_mask_14 : decode b_LB_mask 14 = .ok (.getfield 19, 3) := by decide +kernel
theorem d_LB_mask_17 : decode b_LB_mask 17 = .ok (.if_icmp .ge 24, 3) := by decide +kernel
theorem d_LB_mask_20 : decode b_LB_mask 20 = .ok (.aload_n 0, 1) := by decide +kernel
theorem d_LB_mask_21 : decode b_LB_mask 21 = .ok (.getfield 9, 3) := by decide +kernel
theorem d_LB_mask_24 : decode b_LB_mask 24 = .ok (.iload_n 3, 1) := by decide +kernel
theorem d_LB_mask_25 : decode b_LB_mask 25 = .ok (.aload_n 0, 1) := by decide +kernel
theorem d_LB_mask_26 : decode b_LB_mask 26 = .ok (.getfield 9, 3) := by decide +kernel
theorem d_LB_mask_29 : decode b_LB_mask 29 = .ok (.iload_n 3, 1) := by decide +kernel
theorem d_LB_mask_30 : decode b_LB_mask 30 = .ok (.baload, 1) := by decide +kernel
theorem d_LB_mask_31 : decode b_LB_mask 31 = .ok (.iload_n 2, 1) := by decide +kernel
theorem d_LB_mask_32 : decode b_LB_mask 32 = .ok (.iand, 1) := by decide +kernel
theorem d_LB_mask_33 : decode b_LB_mask 33 = .ok (.i2b, 1) := by decide +kernel
theorem d_LB_mask_34 : decode b_LB_mask 34 = .ok (.bastore, 1) := by decide +kernel
theorem d_LB_mask_35 : decode b_LB_mask 35 = .ok (.iinc 3 1, 3) := by decide +kernel
theorem d_LB_mask_38 : decode b_LB_mask 38 = .ok (.goto (-26), 3) := by decide +kernel
theorem d_LB_mask_41 : decode b_LB_mask 41 = .ok (.return_, 1) := by decide +kernel
theorem d_LB_word_0 : decode b_LB_word 0 = .ok (.iload_n 1, 1) := by decide +kernel
theorem d_LB_word_1 : decode b_LB_word 1 = .ok (.ifCond .lt 11, 3) := by decide +kernel
theorem d_LB_word_4 : decode b_LB_word 4 = .ok (.iload_n 1, 1) := by decide +kernel
theorem d_LB_word_5 : decode b_LB_word 5 = .ok (.aload_n 0, 1) := by decide +kernel
theorem d_LB_word_6 : decode b_LB_word 6 = .ok (.getfield 23, 3) := by decide +kernel
theorem d_LB_word_9 : decode b_LB_word 9 = .ok (.if_icmp .lt 13, 3) := by decide +kernel
theorem d_LB_word_12 : decode b_LB_word 12 = .ok (.new 40, 3) := by decide +kernel
theorem d_LB_word_15 : decode b_LB_word 15 = .ok (.dup, 1) := by decide +kernel
theorem d_LB_word_16 : decode b_LB_word 16 = .ok (.ldc 84, 2) := by decide +kernel
theorem d_LB_word_18 : decode b_LB_word 18 = .ok (.invokespecial 44, 3) := by decide +kernel
theorem d_LB_word_21 : decode b_LB_word 21 = .ok (.athrow, 1) := by decide +kernel
theorem d_LB_word_22 : decode b_LB_word 22 = .ok (.lconst 0, 1) := by decide +kernel
theorem d_LB_word_23 : decode b_LB_word 23 = .ok (.lstore_n 2, 1) := by decide +kernel
theorem d_LB_word_24 : decode b_LB_word 24 = .ok (.iconst 0, 1) := by decide +kernel
theorem d_LB_word_25 : decode b_LB_word 25 = .ok (.istore 4, 2) := by decide +kernel
theorem d_LB_word_27 : decode b_LB_word 27 = .ok (.iload 4, 2) := by decide +kernel
theorem d_LB_word_29 : decode b_LB_word 29 = .ok (.bipush 8, 2) := by decide +kernel
theorem d_LB_word_31 : decode b_LB_word 31 = .ok (.if_icmp .ge 48, 3) := by decide +kernel
theorem d_LB_word_34 : decode b_LB_word 34 = .ok (.iload_n 1, 1) := by decide +kernel
theorem d_LB_word_35 : decode b_LB_word 35 = .ok (.iload 4, 2) := by decide +kernel
theorem d_LB_word_37 : decode b_LB_word 37 = .ok (.iadd, 1) := by decide +kernel
theorem d_LB_word_38 : decode b_LB_word 38 = .ok (.aload_n 0, 1) := by decide +kernel
theorem d_LB_word_39 : decode b_LB_word 39 = .ok (.getfield 23, 3) := by decide +kernel
theorem d_LB_word_42 : decode b_LB_word 42 = .ok (.if_icmp .ge 19, 3) := by decide +kernel
theorem d_LB_word_45 : decode b_LB_word 45 = .ok (.aload_n 0, 1) := by decide +kernel
theorem d_LB_word_46 : decode b_LB_word 46 = .ok (.getfield 13, 3) := by decide +kernel
theorem d_LB_word_49 : decode b_LB_word 49 = .ok (.iload_n 1, 1) := by decide +kernel
theorem d_LB_word_50 : decode b_LB_word 50 = .ok (.iload 4, 2) := by decide +kernel
theorem d_LB_word_52 : decode b_LB_word 52 = .ok (.iadd, 1) := by decide +kernel
theorem d_LB_word_53 : decode b_LB_word 53 = .ok (.baload, 1) := by decide +kernel
theorem d_LB_word_54 : decode b_LB_word 54 = .ok (.sipush 255, 3) := by decide +kernel
theorem d_LB_word_57 : decode b_LB_word 57 = .ok (.iand, 1) := by decide +kernel
theorem d_LB_word_58 : decode b_LB_word 58 = .ok (.goto 4, 3) := by decide +kernel
theorem d_LB_word_61 : decode b_LB_word 61 = .ok (.iconst 0, 1) := by decide +kernel
theorem d_LB_word_62 : decode b_LB_word 62 = .ok (.istore 5, 2) := by decide +kernel
theorem d_LB_word_64 : decode b_LB_word 64 = .ok (.lload_n 2, 1) := by decide +kernel
theorem d_LB_word_65 : decode b_LB_word 65 = .ok (.bipush 8, 2) := by decide +kernel
theorem d_LB_word_67 : decode b_LB_word 67 = .ok (.lshl, 1) := by decide +kernel
theorem d_LB_word_68 : decode b_LB_word 68 = .ok (.iload 5, 2) := by decide +kernel
theorem d_LB_word_70 : decode b_LB_word 70 = .ok (.i2l, 1) := by decide +kernel
theorem d_LB_word_71 : decode b_LB_word 71 = .ok (.lor, 1) := by decide +kernel
theorem d_LB_word_72 : decode b_LB_word 72 = .ok (.lstore_n 2, 1) := by decide +kernel
theorem d_LB_word_73 : decode b_LB_word 73 = .ok (.iinc 4 1, 3) := by decide +kernel
theorem d_LB_word_76 : decode b_LB_word 76 = .ok (.goto (-49), 3) := by decide +kernel
theorem d_LB_word_79 : decode b_LB_word 79 = .ok (.lload_n 2, 1) := by decide +kernel
theorem d_LB_word_80 : decode b_LB_word 80 = .ok (.lreturn, 1) := by decide +kernel
theorem d_LB_count_0 : decode b_LB_count 0 = .ok (.iload_n 1, 1) := by decide +kernel
theorem d_LB_count_1 : decode b_LB_count 1 = .ok (.ifCond .lt 8, 3) := by decide +kernel
theorem d_LB_count_4 : decode b_LB_count 4 = .ok (.iload_n 1, 1) := by decide +kernel
theorem d_LB_count_5 : decode b_LB_count 5 = .ok (.iconst 1, 1) := by decide +kernel
theorem d_LB_count_6 : decode b_LB_count 6 = .ok (.if_icmp .le 13, 3) := by decide +kernel
theorem d_LB_count_9 : decode b_LB_count 9 = .ok (.new 51, 3) := by decide +kernel
theorem d_LB_count_12 : decode b_LB_count 12 = .ok (.dup, 1) := by decide +kernel
theorem d_LB_count_13 : decode b_LB_count 13 = .ok (.ldc 86, 2) := by decide +kernel
theorem d_LB_count_15 : decode b_LB_count 15 = .ok (.invokespecial 55, 3) := by decide +kernel
theorem d_LB_count_18 : decode b_LB_count 18 = .ok (.athrow, 1) := by decide +kernel
theorem d_LB_count_19 : decode b_LB_count 19 = .ok (.iload_n 1, 1) := by decide +kernel
theorem d_LB_count_20 : decode b_LB_count 20 = .ok (.ifCond .ne 10, 3) := by decide +kernel
theorem d_LB_count_23 : decode b_LB_count 23 = .ok (.aload_n 0, 1) := by decide +kernel
theorem d_LB_count_24 : decode b_LB_count 24 = .ok (.getfield 19, 3) := by decide +kernel
theorem d_LB_count_27 : decode b_LB_count 27 = .ok (.goto 7, 3) := by decide +kernel
theorem d_LB_count_30 : decode b_LB_count 30 = .ok (.aload_n 0, 1) := by decide +kernel
theorem d_LB_count_31 : decode b_LB_count 31 = .ok (.getfield 23, 3) := by decide +kernel
theorem d_LB_count_34 : decode b_LB_count 34 = .ok (.ireturn, 1) := by decide +kernel
theorem d_LB_checkM_0 : decode b_LB_checkM 0 = .ok (.iload_n 0, 1) := by decide +kernel
theorem d_LB_checkM_1 : decode b_LB_checkM 1 = .ok (.iconst 2, 1) := by decide +kernel
theorem d_LB_checkM_2 : decode b_LB_checkM 2 = .ok (.if_icmp .lt 9, 3) := by decide +kernel
theorem d_LB_checkM_5 : decode b_LB_checkM 5 = .ok (.iload_n 0, 1) := by decide +kernel
theorem d_LB_checkM_6 : decode b_LB_checkM 6 = .ok (.bipush 8, 2) := by decide +kernel
theorem d_LB_checkM_8 : decode b_LB_checkM 8 = .ok (.if_icmp .le 13, 3) := by decide +kernel
theorem d_LB_checkM_11 : decode b_LB_checkM 11 = .ok (.new 51, 3) := by decide +kernel
theorem d_LB_checkM_14 : decode b_LB_checkM 14 = .ok (.dup, 1) := by decide +kernel
theorem d_LB_checkM_15 : decode b_LB_checkM 15 = .ok (.ldc 88, 2) := by decide +kernel
theorem d_LB_checkM_17 : decode b_LB_checkM 17 = .ok (.invokespecial 55, 3) := by decide +kernel
theorem d_LB_checkM_20 : decode b_LB_checkM 20 = .ok (.athrow, 1) := by decide +kernel
theorem d_LB_checkM_21 : decode b_LB_checkM 21 = .ok (.return_, 1) := by decide +kernel
theorem d_LB_addToTape_0 : decode b_LB_addToTape 0 = .ok (.bipush 24, 2) := by decide +kernel
theorem d_LB_addToTape_2 : decode b_LB_addToTape 2 = .ok (.istore_n 2, 1) := by decide +kernel
theorem d_LB_addToTape_3 : decode b_LB_addToTape 3 = .ok (.iload_n 2, 1) := by decide +kernel
theorem d_LB_addToTape_4 : decode b_LB_addToTape 4 = .ok (.ifCond .lt 42, 3) := by decide +kernel
theorem d_LB_addToTape_7 : decode b_LB_addToTape 7 = .ok (.aload_n 0, 1) := by decide +kernel
theorem d_LB_addToTape_8 : decode b_LB_addToTape 8 = .ok (.getfield 19, 3) := by decide +kernel
theorem d_LB_addToTape_11 : decode b_LB_addToTape 11 = .ok (.sipush 16384, 3) := by decide +kernel
theorem d_LB_addToTape_14 : decode b_LB_addToTape 14 = .ok (.if_icmp .ge 32, 3) := by decide +kernel
theorem d_LB_addToTape_17 : decode b_LB_addToTape 17 = .ok (.aload_n 0, 1) := by decide +kernel
theorem d_LB_addToTape_18 : decode b_LB_addToTape 18 = .ok (.getfield 9, 3) := by decide +kernel
theorem d_LB_addToTape_21 : decode b_LB_addToTape 21 = .ok (.aload_n 0, 1) := by decide +kernel
theorem d_LB_addToTape_22 : decode b_LB_addToTape 22 = .ok (.getfield 19, 3) := by decide +kernel
theorem d_LB_addToTape_25 : decode b_LB_addToTape 25 = .ok (.iload_n 1, 1) := by decide +kernel
theorem d_LB_addToTape_26 : decode b_LB_addToTape 26 = .ok (.iload_n 2, 1) := by decide +kernel
theorem d_LB_addToTape_27 : decode b_LB_addToTape 27 = .ok (.iushr, 1) := by decide +kernel
theorem d_LB_addToTape_28 : decode b_LB_addToTape 28 = .ok (.i2b, 1) := by decide +kernel
theorem d_LB_addToTape_29 : decode b_LB_addToTape 29 = .ok (.bastore, 1) := by decide +kernel
theorem d_LB_addToTape_30 : decode b_LB_addToTape 30 = .ok (.aload_n 0, 1) := by decide +kernel
theorem d_LB_addToTape_31 : decode b_LB_addToTape 31 = .ok (.dup, 1) := by decide +kernel
theorem d_LB_addToTape_32 : decode b_LB_addToTape 32 = .ok (.getfield 19, 3) := by decide +kernel
theorem d_LB_addToTape_35 : decode b_LB_addToTape 35 = .ok (.iconst 1, 1) := by decide +kernel
theorem d_LB_addToTape_36 : decode b_LB_addToTape 36 = .ok (.iadd, 1) := by decide +kernel
theorem d_LB_addToTape_37 : decode b_LB_addToTape 37 = .ok (.putfield 19, 3) := by decide +kernel
theorem d_LB_addToTape_40 : decode b_LB_addToTape 40 = .ok (.iinc 2 (-8), 3) := by decide +kernel
theorem d_LB_addToTape_43 : decode b_LB_addToTape 43 = .ok (.goto (-40), 3) := by decide +kernel
theorem d_LB_addToTape_46 : decode b_LB_addToTape 46 = .ok (.return_, 1) := by decide +kernel
theorem d_LB_tapeIsIndices_0 : decode b_LB_tapeIsIndices 0 = .ok (.iconst 0, 1) := by decide +kernel
theorem d_LB_tapeIsIndices_1 : decode b_LB_tapeIsIndices 1 = .ok (.istore_n 2, 1) := by decide +kernel
theorem d_LB_tapeIsIndices_2 : decode b_LB_tapeIsIndices 2 = .ok (.iload_n 2, 1) := by decide +kernel
theorem d_LB_tapeIsIndices_3 : decode b_LB_tapeIsIndices 3 = .ok (.aload_n 0, 1) := by decide +kernel
theorem d_LB_tapeIsIndices_4 : decode b_LB_tapeIsIndices 4 = .ok (.getfield 19, 3) := by decide +kernel
theorem d_LB_tapeIsIndices_7 : decode b_LB_tapeIsIndices 7 = .ok (.if_icmp .ge 27, 3) := by decide +kernel
theorem d_LB_tapeIsIndices_10 : decode b_LB_tapeIsIndices 10 = .ok (.aload_n 0, 1) := by decide +kernel
theorem d_LB_tapeIsIndices_11 : decode b_LB_tapeIsIndices 11 = .ok (.getfield 9, 3) := by decide +kernel
theorem d_LB_tapeIsIndices_14 : decode b_LB_tapeIsIndices 14 = .ok (.iload_n 2, 1) := by decide +kernel
theorem d_LB_tapeIsIndices_15 : decode b_LB_tapeIsIndices 15 = .ok (.baload, 1) := by decide +kernel
theorem d_LB_tapeIsIndices_16 : decode b_LB_tapeIsIndices 16 = .ok (.sipush 255, 3) := by decide +kernel
theorem d_LB_tapeIsIndices_19 : decode b_LB_tapeIsIndices 19 = .ok (.iand, 1) := by decide +kernel
theorem d_LB_tapeIsIndices_20 : decode b_LB_tapeIsIndices 20 = .ok (.iconst 1, 1) := by decide +kernel
theorem d_LB_tapeIsIndices_21 : decode b_LB_tapeIsIndices 21 = .ok (.iload_n 1, 1) := by decide +kernel
theorem d_LB_tapeIsIndices_22 : decode b_LB_tapeIsIndices 22 = .ok (.ishl, 1) := by decide +kernel
theorem d_LB_tapeIsIndices_23 : decode b_LB_tapeIsIndices 23 = .ok (.if_icmp .lt 5, 3) := by decide +kernel
theorem d_LB_tapeIsIndices_26 : decode b_LB_tapeIsIndices 26 = .ok (.iconst 0, 1) := by decide +kernel
theorem d_LB_tapeIsIndices_27 : decode b_LB_tapeIsIndices 27 = .ok (.ireturn, 1) := by decide +kernel
theorem d_LB_tapeIsIndices_28 : decode b_LB_tapeIsIndices 28 = .ok (.iinc 2 1, 3) := by decide +kernel
theorem d_LB_tapeIsIndices_31 : decode b_LB_tapeIsIndices 31 = .ok (.goto (-29), 3) := by decide +kernel
theorem d_LB_tapeIsIndices_34 : decode b_LB_tapeIsIndices 34 = .ok (.aload_n 0, 1) := by decide +kernel
theorem d_LB_tapeIsIndices_35 : decode b_LB_tapeIsIndices 35 = .ok (.getfield 19, 3) := by decide +kernel
theorem d_LB_tapeIsIndices_38 : decode b_LB_tapeIsIndices 38 = .ok (.ifCond .le 7, 3) := by decide +kernel
theorem d_LB_tapeIsIndices_41 : decode b_LB_tapeIsIndices 41 = .ok (.iconst 1, 1) := by decide +kernel
theorem d_LB_tapeIsIndices_42 : decode b_LB_tapeIsIndices 42 = .ok (.goto 4, 3) := by decide +kernel
theorem d_LB_tapeIsIndices_45 : decode b_LB_tapeIsIndices 45 = .ok (.iconst 0, 1) := by decide +kernel
theorem d_LB_tapeIsIndices_46 : decode b_LB_tapeIsIndices 46 = .ok (.ireturn, 1) := by decide +kernel
theorem d_LB_takeSpareAsResult_0 : decode b_LB_takeSpareAsResult 0 = .ok (.aload_n 0, 1) := by decide +kernel
theorem d_LB_takeSpareAsResult_1 : decode b_LB_takeSpareAsResult 1 = .ok (.getfield 13, 3) := by decide +kernel
theorem d_LB_takeSpareAsResult_4 : decode b_LB_takeSpareAsResult 4 = .ok (.astore_n 2, 1) := by decide +kernel
theorem d_LB_takeSpareAsResult_5 : decode b_LB_takeSpareAsResult 5 = .ok (.aload_n 0, 1) := by decide +kernel
theorem d_LB_takeSpareAsResult_6 : decode b_LB_takeSpareAsResult 6 = .ok (.aload_n 0, 1) := by decide +kernel
theorem d_LB_takeSpareAsResult_7 : decode b_LB_takeSpareAsResult 7 = .ok (.getfield 16, 3) := by decide +kernel
theorem d_LB_takeSpareAsResult_10 : decode b_LB_takeSpareAsResult 10 = .ok (.putfield 13, 3) := by decide +kernel
theorem d_LB_takeSpareAsResult_13 : decode b_LB_takeSpareAsResult 13 = .ok (.aload_n 0, 1) := by decide +kernel
theorem d_LB_takeSpareAsResult_14 : decode b_LB_takeSpareAsResult 14 = .ok (.aload_n 2, 1) := by decide +kernel
theorem d_LB_takeSpareAsResult_15 : decode b_LB_takeSpareAsResult 15 = .ok (.putfield 16, 3) := by decide +kernel
theorem d_LB_takeSpareAsResult_18 : decode b_LB_takeSpareAsResult 18 = .ok (.aload_n 0, 1) := by decide +kernel
theorem d_LB_takeSpareAsResult_19 : decode b_LB_takeSpareAsResult 19 = .ok (.iload_n 1, 1) := by decide +kernel
theorem d_LB_takeSpareAsResult_20 : decode b_LB_takeSpareAsResult 20 = .ok (.putfield 23, 3) := by decide +kernel
theorem d_LB_takeSpareAsResult_23 : decode b_LB_takeSpareAsResult 23 = .ok (.return_, 1) := by decide +kernel
end
section
theorem zI_nat (x : Int32) : x = nI x.toBitVec.toNat := by
  unfold nI
  apply Int32.toBitVec_inj.mp
  apply BitVec.eq_of_toNat_eq
  simp
theorem zp_ushr (v s : Int32) (k : Nat) (hs : ((s.toUInt32 &&& Int32.toUInt32 31).toBitVec % 32).toNat = k) : (v.toUInt32 >>> (s.toUInt32 &&& Int32.toUInt32 31)).toInt32 = nI (v.toBitVec.toNat / 2 ^ k) := by
  rw [zI_nat (v.toUInt32 >>> (s.toUInt32 &&& Int32.toUInt32 31)).toInt32, pk_ushr v s k hs]
/-- byte k of four, the highest first -/
def zq (v : Int32) (k : Nat) : Int32 := zby (v.toBitVec.toNat / 2 ^ (24 - 8 * k))
def zad (f : Nat → Int32) (n : Nat) (v : Int32) : Nat → Int32 := upd (upd (upd (upd f n (zq v 0)) (n + 1) (zq v 1)) (n + 2) (zq v 2)) (n + 3) (zq v 3)
theorem zi_nle {a b : Int32} : ¬ a ≤ b ↔ b < a := Int32.not_le
theorem zi_nlt {a b : Int32} : ¬ a < b ↔ b ≤ a := Int32.not_lt
set_option maxRecDepth 100000 in
set_option maxHeartbeats 4000000 in
theorem sg_LB_checkM {p : Program} {l : Launch} {e : Env} {s : State} {mi : MethodId} {args : Array Value} {below : List Frame} {meth : Method} {co : Code} {D : va_G} {cB cI cL : ClassId} {w0 : va_W} {kr nr : Nat} {post : Outcome → va_W → Prop} (C : zx_C p s mi args co b_LB_checkM 1 R_LB zB D zcl (zt cB cI cL) (va_A w0 s.heap.size)) {m9 : Int32} (hr9 : meth.sig.returnType = none) (hlk9 : meth.locks = false) (hl9 : l.stackTraces = false) (ht9 : co.exceptionTable.toList.map (fun h => (h.startPc, h.endPc, h.handlerPc, h.catchType)) = []) (t11 : (m9 < (2 : Int32)) → ∀ x9 : Nat, post (.threw x9) [(x9, .inr (6, []))]) (r21 : (¬ m9 < (2 : Int32)) → (m9 ≤ (8 : Int32)) → post (.returned none) []) (t11_2 : (¬ m9 < (2 : Int32)) → (¬ m9 ≤ (8 : Int32)) → ∀ x9 : Nat, post (.threw x9) [(x9, .inr (6, []))]) : zx_At p l e (zr 8 1 6) s mi args below meth co (zx_Q below s D zcl w0 kr nr (zr 8 1 6) post) D zcl (va_A w0 s.heap.size) 1 [(0, .int m9)] [] 0 0 0 [] := by
  refine zx_iload_n (pc := 0) C d_LB_checkM_0 rfl 0 rfl ?_
  refine zx_iconst (pc := 1) C d_LB_checkM_1 (v := (2 : Int32)) (by decide) ?_
  refine zx_icmp_lt (pc := 2) C 11 d_LB_checkM_2 (by decide) (fun c2 => ?_) (fun c2 => ?_)
  · exact zx_throwS (pc := 11) (names := zex) (ci := 6) C hl9 (by decide +kernel) zex_fit zw_246 zw_11 zw_273 zh_LB_55 rfl hlk9 (zx_noTab ht9 _) d_LB_checkM_11 d_LB_checkM_14 d_LB_checkM_15 d_LB_checkM_17 d_LB_checkM_20 (Nat.le_of_ble_eq_true rfl) (Nat.le_of_ble_eq_true rfl) (Nat.le_of_ble_eq_true rfl) (Nat.le_of_ble_eq_true rfl) (t11 c2)
  · refine zx_iload_n (pc := 5) C d_LB_checkM_5 rfl 0 rfl ?_
    refine zx_bipush (pc := 6) C d_LB_checkM_6 (v := (8 : Int32)) (by decide) ?_
    refine zx_icmp_le (pc := 8) C 21 d_LB_checkM_8 (by decide) (fun c8 => ?_) (fun c8 => ?_)
    · exact zx_vret (pc := 21) C hr9 hlk9 (Nat.zero_le _) (Nat.zero_le _) d_LB_checkM_21 (r21 c2 c8)
    · exact zx_throwS (pc := 11) (names := zex) (ci := 6) C hl9 (by decide +kernel) zex_fit zw_246 zw_11 zw_273 zh_LB_55 rfl hlk9 (zx_noTab ht9 _) d_LB_checkM_11 d_LB_checkM_14 d_LB_checkM_15 d_LB_checkM_17 d_LB_checkM_20 (Nat.le_of_ble_eq_true rfl) (Nat.le_of_ble_eq_true rfl) (Nat.le_of_ble_eq_true rfl) (Nat.le_of_ble_eq_true rfl) (t11_2 c2 c8)

/-- checkM: refuses what is not 2 .. 8 -/
theorem k_LB_checkM (l : Launch) (D : va_G) (cB cI cL : ClassId) (hl : l.stackTraces = false) (m9 : Int32) : zx_K l zB D zcl (zt cB cI cL) y_LB_checkM b_LB_checkM 1 (none) [] 0 0 (zr 8 1 6) [.int m9] [] (fun o w => ((m9 < 2 ∨ 8 < m9) ∧ ∃ x0 : Nat, o = .threw x0 ∧ w = [(x0, .inr (6, []))]) ∨ (¬ (m9 < 2 ∨ 8 < m9) ∧ o = .returned none ∧ w = [])) := by
  refine zx_K.mk (Nat.le_of_ble_eq_true rfl) (fun p e s mm below meth c9 C hr hlk ht hnm => ?_)
  refine sg_LB_checkM C hr hlk hl ht (fun h x0 => Or.inl ⟨Or.inl h, x0, rfl, rfl⟩) (fun h1 h2 => Or.inr ⟨?_, rfl, rfl⟩) (fun h1 h2 x0 => Or.inl ⟨Or.inr (zi_nle.mp h2), x0, rfl, rfl⟩)
  intro h
  rcases h with h | h
  · exact h1 h
  · exact zi_nle.mpr h h2
set_option maxRecDepth 100000 in
set_option maxHeartbeats 4000000 in
theorem sg_LB_end {p : Program} {l : Launch} {e : Env} {s : State} {mi : MethodId} {args : Array Value} {below : List Frame} {meth : Method} {co : Code} {D : va_G} {cB cI cL : ClassId} {w0 : va_W} {kr nr : Nat} {post : Outcome → va_W → Prop} (C : zx_C p s mi args co b_LB_end 2 R_LB zB D zcl (zt cB cI cL) (va_A w0 s.heap.size)) {ax t rr sp ua pa n r : Nat} {i9 : Int32} (hr9 : meth.sig.returnType = some .int) (hlk9 : meth.locks = false) (hl9 : l.stackTraces = false) (ht9 : co.exceptionTable.toList.map (fun h => (h.startPc, h.endPc, h.handlerPc, h.catchType)) = []) (t12 : (i9 < 0) → ∀ x9 : Nat, post (.threw x9) [(ax, .inr (4, [.ref t, .int (nI n), .ref rr, .ref sp, .int (nI r), .ref ua, .ref pa])), (x9, .inr (6, []))]) (r31 : (¬ i9 < 0) → (i9 ≤ (nI n)) → post (.returned (some (.int i9))) [(ax, .inr (4, [.ref t, .int i9, .ref rr, .ref sp, .int (nI r), .ref ua, .ref pa]))]) (t12_2 : (¬ i9 < 0) → (¬ i9 ≤ (nI n)) → ∀ x9 : Nat, post (.threw x9) [(ax, .inr (4, [.ref t, .int (nI n), .ref rr, .ref sp, .int (nI r), .ref ua, .ref pa])), (x9, .inr (6, []))]) : zx_At p l e (zr 8 1 6) s mi args below meth co (zx_Q below s D zcl w0 kr nr (zr 8 1 6) post) D zcl (va_A w0 s.heap.size) 2 [(0, .ref ax), (1, .int i9)] [(ax, .inr (4, [.ref t, .int (nI n), .ref rr, .ref sp, .int (nI r), .ref ua, .ref pa]))] 0 0 0 [] := by
  refine zx_iload_n (pc := 0) C d_LB_end_0 rfl 1 rfl ?_
  refine zx_if_lt (pc := 1) C 12 d_LB_end_1 (by decide) (fun c1 => ?_) (fun c1 => ?_)
  · exact zx_throwS (pc := 12) (names := zex) (ci := 6) C hl9 (by decide +kernel) zex_fit zw_246 zw_11 zw_255 zh_LB_55 rfl hlk9 (zx_noTab ht9 _) d_LB_end_12 d_LB_end_15 d_LB_end_16 d_LB_end_18 d_LB_end_21 (Nat.le_of_ble_eq_true rfl) (Nat.le_of_ble_eq_true rfl) (Nat.le_of_ble_eq_true rfl) (Nat.le_of_ble_eq_true rfl) (t12 c1)
  · refine zx_iload_n (pc := 4) C d_LB_end_4 rfl 1 rfl ?_
    refine zx_aload_n (pc := 5) C d_LB_end_5 rfl 0 rfl ?_
    refine zx_get (pc := 6) (ci := 4) (Cn := R_LB) (T := T_LB) (N := 7) (v := .int (nI n)) C zu_LB 0 rfl rfl 1 (by decide) zw_130 rfl rfl d_LB_end_6 ?_
    refine zx_icmp_le (pc := 9) C 22 d_LB_end_9 (by decide) (fun c9 => ?_) (fun c9 => ?_)
    · refine zx_aload_n (pc := 22) C d_LB_end_22 rfl 0 rfl ?_
      refine zx_iload_n (pc := 23) C d_LB_end_23 rfl 1 rfl ?_
      refine zx_put (pc := 24) (ci := 4) (Cn := R_LB) (T := T_LB) (N := 7) (v := .int i9) (ty := .int) (ws' := [(ax, .inr (4, [.ref t, .int i9, .ref rr, .ref sp, .int (nI r), .ref ua, .ref pa]))]) C zu_LB ty_LB tyk_LB nm_LB 0 rfl rfl 1 (by decide) zw_130 rfl rfl (by decide +kernel) rfl rfl (Nat.le_of_ble_eq_true rfl) rfl d_LB_end_24 ?_
      refine zx_aload_n (pc := 27) C d_LB_end_27 rfl 0 rfl ?_
      refine zx_get (pc := 28) (ci := 4) (Cn := R_LB) (T := T_LB) (N := 7) (v := .int i9) C zu_LB 0 rfl rfl 1 (by decide) zw_130 rfl rfl d_LB_end_28 ?_
      exact zx_iret (pc := 31) C hr9 hlk9 (Nat.zero_le _) (Nat.zero_le _) d_LB_end_31 (r31 c1 c9)
    · exact zx_throwS (pc := 12) (names := zex) (ci := 6) C hl9 (by decide +kernel) zex_fit zw_246 zw_11 zw_255 zh_LB_55 rfl hlk9 (zx_noTab ht9 _) d_LB_end_12 d_LB_end_15 d_LB_end_16 d_LB_end_18 d_LB_end_21 (Nat.le_of_ble_eq_true rfl) (Nat.le_of_ble_eq_true rfl) (Nat.le_of_ble_eq_true rfl) (Nat.le_of_ble_eq_true rfl) (t12_2 c1 c9)

theorem k_LB_end (l : Launch) (D : va_G) (cB cI cL : ClassId) (hl : l.stackTraces = false) (ax t rr sp ua pa n r : Nat) (i9 : Int32) : zx_K l zB D zcl (zt cB cI cL) y_LB_end b_LB_end 2 (some .int) [] 0 0 (zr 8 1 6) [.ref ax, .int i9] [(ax, .inr (4, [.ref t, .int (nI n), .ref rr, .ref sp, .int (nI r), .ref ua, .ref pa]))] (fun o w => ((i9 < 0 ∨ nI n < i9) ∧ ∃ x0 : Nat, o = .threw x0 ∧ w = [(ax, .inr (4, [.ref t, .int (nI n), .ref rr, .ref sp, .int (nI r), .ref ua, .ref pa])), (x0, .inr (6, []))]) ∨ (¬ (i9 < 0 ∨ nI n < i9) ∧ o = .returned (some (.int i9)) ∧ w = [(ax, .inr (4, [.ref t, .int i9, .ref rr, .ref sp, .int (nI r), .ref ua, .ref pa]))])) := by
  refine zx_K.mk (Nat.le_of_ble_eq_true rfl) (fun p e s mm below meth c9 C hr hlk ht hnm => ?_)
  refine sg_LB_end C hr hlk hl ht (fun h x0 => Or.inl ⟨Or.inl h, x0, rfl, rfl⟩) (fun h1 h2 => Or.inr ⟨?_, rfl, rfl⟩) (fun h1 h2 x0 => Or.inl ⟨Or.inr (zi_nle.mp h2), x0, rfl, rfl⟩)
  intro h
  rcases h with h | h
  · exact h1 h
  · exact zi_nle.mpr h h2
set_option maxRecDepth 100000 in
set_option maxHeartbeats 4000000 in
theorem sg_LB_count {p : Program} {l : Launch} {e : Env} {s : State} {mi : MethodId} {args : Array Value} {below : List Frame} {meth : Method} {co : Code} {D : va_G} {cB cI cL : ClassId} {w0 : va_W} {kr nr : Nat} {post : Outcome → va_W → Prop} (C : zx_C p s mi args co b_LB_count 2 R_LB zB D zcl (zt cB cI cL) (va_A w0 s.heap.size)) {ax t rr sp ua pa n r : Nat} {i9 : Int32} (hr9 : meth.sig.returnType = some .int) (hlk9 : meth.locks = false) (hl9 : l.stackTraces = false) (ht9 : co.exceptionTable.toList.map (fun h => (h.startPc, h.endPc, h.handlerPc, h.catchType)) = []) (t9 : (i9 < 0) → ∀ x9 : Nat, post (.threw x9) [(ax, .inr (4, [.ref t, .int (nI n), .ref rr, .ref sp, .int (nI r), .ref ua, .ref pa])), (x9, .inr (6, []))]) (r34 : (¬ i9 < 0) → (i9 ≤ (1 : Int32)) → (¬ i9 = 0) → post (.returned (some (.int (nI r)))) [(ax, .inr (4, [.ref t, .int (nI n), .ref rr, .ref sp, .int (nI r), .ref ua, .ref pa]))]) (r34_2 : (¬ i9 < 0) → (i9 ≤ (1 : Int32)) → (i9 = 0) → post (.returned (some (.int (nI n)))) [(ax, .inr (4, [.ref t, .int (nI n), .ref rr, .ref sp, .int (nI r), .ref ua, .ref pa]))]) (t9_2 : (¬ i9 < 0) → (¬ i9 ≤ (1 : Int32)) → ∀ x9 : Nat, post (.threw x9) [(ax, .inr (4, [.ref t, .int (nI n), .ref rr, .ref sp, .int (nI r), .ref ua, .ref pa])), (x9, .inr (6, []))]) : zx_At p l e (zr 8 1 6) s mi args below meth co (zx_Q below s D zcl w0 kr nr (zr 8 1 6) post) D zcl (va_A w0 s.heap.size) 2 [(0, .ref ax), (1, .int i9)] [(ax, .inr (4, [.ref t, .int (nI n), .ref rr, .ref sp, .int (nI r), .ref ua, .ref pa]))] 0 0 0 [] := by
  refine zx_iload_n (pc := 0) C d_LB_count_0 rfl 1 rfl ?_
  refine zx_if_lt (pc := 1) C 9 d_LB_count_1 (by decide) (fun c1 => ?_) (fun c1 => ?_)
  · exact zx_throwS (pc := 9) (names := zex) (ci := 6) C hl9 (by decide +kernel) zex_fit zw_246 zw_11 zw_694 zh_LB_55 rfl hlk9 (zx_noTab ht9 _) d_LB_count_9 d_LB_count_12 d_LB_count_13 d_LB_count_15 d_LB_count_18 (Nat.le_of_ble_eq_true rfl) (Nat.le_of_ble_eq_true rfl) (Nat.le_of_ble_eq_true rfl) (Nat.le_of_ble_eq_true rfl) (t9 c1)
  · refine zx_iload_n (pc := 4) C d_LB_count_4 rfl 1 rfl ?_
    refine zx_iconst (pc := 5) C d_LB_count_5 (v := (1 : Int32)) (by decide) ?_
    refine zx_icmp_le (pc := 6) C 19 d_LB_count_6 (by decide) (fun c6 => ?_) (fun c6 => ?_)
    · refine zx_iload_n (pc := 19) C d_LB_count_19 rfl 1 rfl ?_
      refine zx_if_ne (pc := 20) C 30 d_LB_count_20 (by decide) (fun c20 => ?_) (fun c20 => ?_)
      · refine zx_aload_n (pc := 30) C d_LB_count_30 rfl 0 rfl ?_
        refine zx_get (pc := 31) (ci := 4) (Cn := R_LB) (T := T_LB) (N := 7) (v := .int (nI r)) C zu_LB 0 rfl rfl 4 (by decide) zw_133 rfl rfl d_LB_count_31 ?_
        exact zx_iret (pc := 34) C hr9 hlk9 (Nat.zero_le _) (Nat.zero_le _) d_LB_count_34 (r34 c1 c6 c20)
      · refine zx_aload_n (pc := 23) C d_LB_count_23 rfl 0 rfl ?_
        refine zx_get (pc := 24) (ci := 4) (Cn := R_LB) (T := T_LB) (N := 7) (v := .int (nI n)) C zu_LB 0 rfl rfl 1 (by decide) zw_130 rfl rfl d_LB_count_24 ?_
        refine zx_goto (pc := 27) C 34 d_LB_count_27 (by decide) ?_
        exact zx_iret (pc := 34) C hr9 hlk9 (Nat.zero_le _) (Nat.zero_le _) d_LB_count_34 (r34_2 c1 c6 c20)
    · exact zx_throwS (pc := 9) (names := zex) (ci := 6) C hl9 (by decide +kernel) zex_fit zw_246 zw_11 zw_694 zh_LB_55 rfl hlk9 (zx_noTab ht9 _) d_LB_count_9 d_LB_count_12 d_LB_count_13 d_LB_count_15 d_LB_count_18 (Nat.le_of_ble_eq_true rfl) (Nat.le_of_ble_eq_true rfl) (Nat.le_of_ble_eq_true rfl) (Nat.le_of_ble_eq_true rfl) (t9_2 c1 c6)

theorem k_LB_count (l : Launch) (D : va_G) (cB cI cL : ClassId) (hl : l.stackTraces = false) (ax t rr sp ua pa n r : Nat) (i9 : Int32) : zx_K l zB D zcl (zt cB cI cL) y_LB_count b_LB_count 2 (some .int) [] 0 0 (zr 8 1 6) [.ref ax, .int i9] [(ax, .inr (4, [.ref t, .int (nI n), .ref rr, .ref sp, .int (nI r), .ref ua, .ref pa]))] (fun o w => ((i9 < 0 ∨ 1 < i9) ∧ ∃ x0 : Nat, o = .threw x0 ∧ w = [(ax, .inr (4, [.ref t, .int (nI n), .ref rr, .ref sp, .int (nI r), .ref ua, .ref pa])), (x0, .inr (6, []))]) ∨ (¬ (i9 < 0 ∨ 1 < i9) ∧ o = .returned (some (.int (if i9 = 0 then nI n else nI r))) ∧ w = [(ax, .inr (4, [.ref t, .int (nI n), .ref rr, .ref sp, .int (nI r), .ref ua, .ref pa]))])) := by
  refine zx_K.mk (Nat.le_of_ble_eq_true rfl) (fun p e s mm below meth c9 C hr hlk ht hnm => ?_)
  refine sg_LB_count C hr hlk hl ht (fun h x0 => Or.inl ⟨Or.inl h, x0, rfl, rfl⟩) (fun h1 h2 h3 => Or.inr ⟨?_, by rw [if_neg h3], rfl⟩) (fun h1 h2 h3 => Or.inr ⟨?_, by rw [if_pos h3], rfl⟩) (fun h1 h2 x0 => Or.inl ⟨Or.inr (zi_nle.mp h2), x0, rfl, rfl⟩)
  · intro h
    rcases h with h | h
    · exact h1 h
    · exact zi_nle.mpr h h2
  · intro h
    rcases h with h | h
    · exact h1 h
    · exact zi_nle.mpr h h2
set_option maxRecDepth 100000 in
set_option maxHeartbeats 4000000 in
theorem sg_LB_take {p : Program} {l : Launch} {e : Env} {R : Room} {s : State} {mi : MethodId} {args : Array Value} {below : List Frame} {meth : Method} {co : Code} {D : va_G} {cB cI cL : ClassId} {w0 : va_W} {kr nr : Nat} {post : Outcome → va_W → Prop} (C : zx_C p s mi args co b_LB_takeSpareAsResult 3 R_LB zB D zcl (zt cB cI cL) (va_A w0 s.heap.size)) {ax t rr sp ua pa n r : Nat} {i9 : Int32} (hr9 : meth.sig.returnType = none) (hlk9 : meth.locks = false) (r23 : post (.returned none) [(ax, .inr (4, [.ref t, .int (nI n), .ref sp, .ref rr, .int i9, .ref ua, .ref pa]))]) : zx_At p l e R s mi args below meth co (zx_Q below s D zcl w0 kr nr R post) D zcl (va_A w0 s.heap.size) 3 [(0, .ref ax), (1, .int i9)] [(ax, .inr (4, [.ref t, .int (nI n), .ref rr, .ref sp, .int (nI r), .ref ua, .ref pa]))] 0 0 0 [] := by
  refine zx_aload_n (pc := 0) C d_LB_takeSpareAsResult_0 rfl 0 rfl ?_
  refine zx_get (pc := 1) (ci := 4) (Cn := R_LB) (T := T_LB) (N := 7) (v := .ref rr) C zu_LB 0 rfl rfl 2 (by decide) zw_131 rfl rfl d_LB_takeSpareAsResult_1 ?_
  refine zx_astore_n (pc := 4) C d_LB_takeSpareAsResult_4 rfl (by decide) (lv' := [(2, .ref rr), (0, .ref ax), (1, .int i9)]) rfl ?_
  refine zx_aload_n (pc := 5) C d_LB_takeSpareAsResult_5 rfl 1 rfl ?_
  refine zx_aload_n (pc := 6) C d_LB_takeSpareAsResult_6 rfl 1 rfl ?_
  refine zx_get (pc := 7) (ci := 4) (Cn := R_LB) (T := T_LB) (N := 7) (v := .ref sp) C zu_LB 0 rfl rfl 3 (by decide) zw_132 rfl rfl d_LB_takeSpareAsResult_7 ?_
  refine zx_put (pc := 10) (ci := 4) (Cn := R_LB) (T := T_LB) (N := 7) (v := .ref sp) (ty := .array .byte) (ws' := [(ax, .inr (4, [.ref t, .int (nI n), .ref sp, .ref sp, .int (nI r), .ref ua, .ref pa]))]) C zu_LB ty_LB tyk_LB nm_LB 0 rfl rfl 2 (by decide) zw_131 rfl rfl (by decide +kernel) rfl rfl (Nat.le_of_ble_eq_true rfl) rfl d_LB_takeSpareAsResult_10 ?_
  refine zx_aload_n (pc := 13) C d_LB_takeSpareAsResult_13 rfl 1 rfl ?_
  refine zx_aload_n (pc := 14) C d_LB_takeSpareAsResult_14 rfl 0 rfl ?_
  refine zx_put (pc := 15) (ci := 4) (Cn := R_LB) (T := T_LB) (N := 7) (v := .ref rr) (ty := .array .byte) (ws' := [(ax, .inr (4, [.ref t, .int (nI n), .ref sp, .ref rr, .int (nI r), .ref ua, .ref pa]))]) C zu_LB ty_LB tyk_LB nm_LB 0 rfl rfl 3 (by decide) zw_132 rfl rfl (by decide +kernel) rfl rfl (Nat.le_of_ble_eq_true rfl) rfl d_LB_takeSpareAsResult_15 ?_
  refine zx_aload_n (pc := 18) C d_LB_takeSpareAsResult_18 rfl 1 rfl ?_
  refine zx_iload_n (pc := 19) C d_LB_takeSpareAsResult_19 rfl 2 rfl ?_
  refine zx_put (pc := 20) (ci := 4) (Cn := R_LB) (T := T_LB) (N := 7) (v := .int i9) (ty := .int) (ws' := [(ax, .inr (4, [.ref t, .int (nI n), .ref sp, .ref rr, .int i9, .ref ua, .ref pa]))]) C zu_LB ty_LB tyk_LB nm_LB 0 rfl rfl 4 (by decide) zw_133 rfl rfl (by decide +kernel) rfl rfl (Nat.le_of_ble_eq_true rfl) rfl d_LB_takeSpareAsResult_20 ?_
  exact zx_vret (pc := 23) C hr9 hlk9 (Nat.zero_le _) (Nat.zero_le _) d_LB_takeSpareAsResult_23 (r23)

theorem k_LB_takeSpareAsResult (l : Launch) (D : va_G) (cB cI cL : ClassId) (R : Room) (ax t rr sp ua pa n r : Nat) (i9 : Int32) : zx_K l zB D zcl (zt cB cI cL) y_LB_takeSpareAsResult b_LB_takeSpareAsResult 3 (none) [] 0 0 R [.ref ax, .int i9] [(ax, .inr (4, [.ref t, .int (nI n), .ref rr, .ref sp, .int (nI r), .ref ua, .ref pa]))] (fun o w => o = .returned none ∧ w = [(ax, .inr (4, [.ref t, .int (nI n), .ref sp, .ref rr, .int i9, .ref ua, .ref pa]))]) := by
  refine zx_K.mk (Nat.le_of_ble_eq_true rfl) (fun p e s mm below meth c9 C hr hlk ht hnm => ?_)
  exact sg_LB_take C hr hlk ⟨rfl, rfl⟩
set_option maxRecDepth 100000 in
set_option maxHeartbeats 4000000 in
theorem sg_LB_add {p : Program} {l : Launch} {e : Env} {R : Room} {s : State} {mi : MethodId} {args : Array Value} {below : List Frame} {meth : Method} {co : Code} {D : va_G} {cB cI cL : ClassId} {Q : State → Prop} {A : Nat → Prop} (C : zx_C p s mi args co b_LB_addToTape 3 R_LB zB D zcl (zt cB cI cL) A) {ax t rr sp ua pa n r : Nat} {v9 : Int32} {f : Nat → Int32} (k3 : zx_At p l e R s mi args below meth co Q D zcl A 3 [(0, .ref ax), (1, .int v9), (2, .int (24 : Int32))] [(ax, .inr (4, [.ref t, .int (nI n), .ref rr, .ref sp, .int (nI r), .ref ua, .ref pa])), (t, .inl (cB, 16384, .inl f))] 0 0 3 []) : zx_At p l e R s mi args below meth co Q D zcl A 3 [(0, .ref ax), (1, .int v9)] [(ax, .inr (4, [.ref t, .int (nI n), .ref rr, .ref sp, .int (nI r), .ref ua, .ref pa])), (t, .inl (cB, 16384, .inl f))] 0 0 0 [] := by
  refine zx_bipush (pc := 0) C d_LB_addToTape_0 (v := (24 : Int32)) (by decide) ?_
  refine zx_istore_n (pc := 2) C d_LB_addToTape_2 rfl (by decide) (lv' := [(2, .int (24 : Int32)), (0, .ref ax), (1, .int v9)]) rfl ?_
  refine zx_lv (lv' := [(0, .ref ax), (1, .int v9), (2, .int (24 : Int32))]) [1, 2, 0] rfl ?_
  exact k3

set_option maxRecDepth 100000 in
set_option maxHeartbeats 4000000 in
theorem sg_LB_add3 {p : Program} {l : Launch} {e : Env} {R : Room} {s : State} {mi : MethodId} {args : Array Value} {below : List Frame} {meth : Method} {co : Code} {D : va_G} {cB cI cL : ClassId} {w0 : va_W} {kr nr : Nat} {post : Outcome → va_W → Prop} (C : zx_C p s mi args co b_LB_addToTape 3 R_LB zB D zcl (zt cB cI cL) (va_A w0 s.heap.size)) {ax t rr sp ua pa n r q8 : Nat} {v9 s9 s8 : Int32} {f : Nat → Int32} (hr9 : meth.sig.returnType = none) (hlk9 : meth.locks = false) (r46 : (s9 < 0) → post (.returned none) [(ax, .inr (4, [.ref t, .int (nI n), .ref rr, .ref sp, .int (nI r), .ref ua, .ref pa])), (t, .inl (cB, 16384, .inl f))]) (r46_2 : (¬ s9 < 0) → ((16384 : Int32) ≤ (nI n)) → post (.returned none) [(ax, .inr (4, [.ref t, .int (nI n), .ref rr, .ref sp, .int (nI r), .ref ua, .ref pa])), (t, .inl (cB, 16384, .inl f))]) (e27 : (¬ s9 < 0) → (¬ (16384 : Int32) ≤ (nI n)) → ((v9.toUInt32 >>> (s9.toUInt32 &&& Int32.toUInt32 31)).toInt32) = (nI q8)) (e28 : (¬ s9 < 0) → (¬ (16384 : Int32) ≤ (nI n)) → ((nI q8).toInt8.toInt32) = (zby q8)) (b29 : (¬ s9 < 0) → (¬ (16384 : Int32) ≤ (nI n)) → (nI n) = nI n ∧ n < 16384) (e36 : (¬ s9 < 0) → (¬ (16384 : Int32) ≤ (nI n)) → ((nI n) + (1 : Int32)) = (nI (n + 1))) (e40 : (¬ s9 < 0) → (¬ (16384 : Int32) ≤ (nI n)) → s9 + (-8 : Int32) = s8) (k3 : (¬ s9 < 0) → (¬ (16384 : Int32) ≤ (nI n)) → zx_At p l e R s mi args below meth co (zx_Q below s D zcl w0 kr nr R post) D zcl (va_A w0 s.heap.size) 3 [(0, .ref ax), (1, .int v9), (2, .int s8)] [(ax, .inr (4, [.ref t, .int (nI (n + 1)), .ref rr, .ref sp, .int (nI r), .ref ua, .ref pa])), (t, .inl (cB, 16384, .inl (upd f n (vp_nar .byte (zby q8)))))] 0 0 3 []) : zx_At p l e R s mi args below meth co (zx_Q below s D zcl w0 kr nr R post) D zcl (va_A w0 s.heap.size) 3 [(0, .ref ax), (1, .int v9), (2, .int s9)] [(ax, .inr (4, [.ref t, .int (nI n), .ref rr, .ref sp, .int (nI r), .ref ua, .ref pa])), (t, .inl (cB, 16384, .inl f))] 0 0 3 [] := by
  refine zx_iload_n (pc := 3) C d_LB_addToTape_3 rfl 2 rfl ?_
  refine zx_if_lt (pc := 4) C 46 d_LB_addToTape_4 (by decide) (fun c4 => ?_) (fun c4 => ?_)
  · exact zx_vret (pc := 46) C hr9 hlk9 (Nat.zero_le _) (Nat.zero_le _) d_LB_addToTape_46 (r46 c4)
  · refine zx_aload_n (pc := 7) C d_LB_addToTape_7 rfl 0 rfl ?_
    refine zx_get (pc := 8) (ci := 4) (Cn := R_LB) (T := T_LB) (N := 7) (v := .int (nI n)) C zu_LB 0 rfl rfl 1 (by decide) zw_130 rfl rfl d_LB_addToTape_8 ?_
    refine zx_sipush (pc := 11) C d_LB_addToTape_11 (v := (16384 : Int32)) (by decide) ?_
    refine zx_icmp_ge (pc := 14) C 46 d_LB_addToTape_14 (by decide) (fun c14 => ?_) (fun c14 => ?_)
    · exact zx_vret (pc := 46) C hr9 hlk9 (Nat.zero_le _) (Nat.zero_le _) d_LB_addToTape_46 (r46_2 c4 c14)
    · refine zx_aload_n (pc := 17) C d_LB_addToTape_17 rfl 0 rfl ?_
      refine zx_get (pc := 18) (ci := 4) (Cn := R_LB) (T := T_LB) (N := 7) (v := .ref t) C zu_LB 0 rfl rfl 0 (by decide) zw_129 rfl rfl d_LB_addToTape_18 ?_
      refine zx_aload_n (pc := 21) C d_LB_addToTape_21 rfl 0 rfl ?_
      refine zx_get (pc := 22) (ci := 4) (Cn := R_LB) (T := T_LB) (N := 7) (v := .int (nI n)) C zu_LB 0 rfl rfl 1 (by decide) zw_130 rfl rfl d_LB_addToTape_22 ?_
      refine zx_iload_n (pc := 25) C d_LB_addToTape_25 rfl 1 rfl ?_
      refine zx_iload_n (pc := 26) C d_LB_addToTape_26 rfl 2 rfl ?_
      refine zx_iushr (pc := 27) C d_LB_addToTape_27 rfl ?_
      refine zx_seti (nI q8) (e27 c4 c14) ?_
      refine zx_i2b (pc := 28) C d_LB_addToTape_28 rfl ?_
      refine zx_seti (zby q8) (e28 c4 c14) ?_
      refine zx_bast (pc := 29) (ws' := [(ax, .inr (4, [.ref t, .int (nI n), .ref rr, .ref sp, .int (nI r), .ref ua, .ref pa])), (t, .inl (cB, 16384, .inl (upd f n (vp_nar .byte (zby q8)))))]) C 1 0 rfl rfl n (b29 c4 c14).1 (b29 c4 c14).2 (by decide) rfl d_LB_addToTape_29 ?_
      refine zx_aload_n (pc := 30) C d_LB_addToTape_30 rfl 0 rfl ?_
      refine zx_dup (pc := 31) C d_LB_addToTape_31 rfl ?_
      refine zx_get (pc := 32) (ci := 4) (Cn := R_LB) (T := T_LB) (N := 7) (v := .int (nI n)) C zu_LB 0 rfl rfl 1 (by decide) zw_130 rfl rfl d_LB_addToTape_32 ?_
      refine zx_iconst (pc := 35) C d_LB_addToTape_35 (v := (1 : Int32)) (by decide) ?_
      refine zx_iadd (pc := 36) C d_LB_addToTape_36 ?_
      refine zx_seti (nI (n + 1)) (e36 c4 c14) ?_
      refine zx_put (pc := 37) (ci := 4) (Cn := R_LB) (T := T_LB) (N := 7) (v := .int (nI (n + 1))) (ty := .int) (ws' := [(ax, .inr (4, [.ref t, .int (nI (n + 1)), .ref rr, .ref sp, .int (nI r), .ref ua, .ref pa])), (t, .inl (cB, 16384, .inl (upd f n (vp_nar .byte (zby q8)))))]) C zu_LB ty_LB tyk_LB nm_LB 0 rfl rfl 1 (by decide) zw_130 rfl rfl (by decide +kernel) rfl rfl (Nat.le_of_ble_eq_true rfl) rfl d_LB_addToTape_37 ?_
      refine zx_iinc (pc := 40) C d_LB_addToTape_40 2 rfl (v := s8) (e40 c4 c14) (by decide) (lv' := [(2, .int s8), (0, .ref ax), (1, .int v9)]) rfl ?_
      refine zx_goto (pc := 43) C 3 d_LB_addToTape_43 (by decide) ?_
      refine zx_lv (lv' := [(0, .ref ax), (1, .int v9), (2, .int s8)]) [1, 2, 0] rfl ?_
      exact k3 c4 c14

theorem k_LB_addToTape (l : Launch) (D : va_G) (cB cI cL : ClassId) (R : Room) (ax t rr sp ua pa n r : Nat) (v9 : Int32) (f : Nat → Int32) (hn : n + 4 ≤ 16384) : zx_K l zB D zcl (zt cB cI cL) y_LB_addToTape b_LB_addToTape 3 (none) [] 0 0 R [.ref ax, .int v9] [(ax, .inr (4, [.ref t, .int (nI n), .ref rr, .ref sp, .int (nI r), .ref ua, .ref pa])), (t, .inl (cB, 16384, .inl f))] (fun o w => o = .returned none ∧ w = [(ax, .inr (4, [.ref t, .int (nI (n + 4)), .ref rr, .ref sp, .int (nI r), .ref ua, .ref pa])), (t, .inl (cB, 16384, .inl (zad f n v9)))]) := by
  refine zx_K.mk (Nat.le_of_ble_eq_true rfl) (fun p e s mm below meth c9 C hr hlk ht hnm => ?_)
  have n0 : ∀ k, k < 4 → ¬ (16384 : Int32) ≤ nI (n + k) := fun k hk z => absurd ((zp_ge (k := 16384) (K := 16384) rfl (by omega) (by decide)).mp z) (by omega)
  refine sg_LB_add C ?_
  refine sg_LB_add3 (n := n) (q8 := v9.toBitVec.toNat / 2 ^ 24) (s9 := 24) (s8 := 16) C hr hlk (fun h => absurd h (by decide)) (fun _ h => absurd h (n0 0 (by decide))) (fun _ _ => zp_ushr v9 24 24 (by decide)) (fun _ _ => rfl) (fun _ _ => ⟨rfl, by omega⟩) (fun _ _ => nI_1 _) (fun _ _ => by decide) (fun _ _ => ?_)
  rw [zby_nar]
  refine sg_LB_add3 (n := (n + 1)) (q8 := v9.toBitVec.toNat / 2 ^ 16) (s9 := 16) (s8 := 8) C hr hlk (fun h => absurd h (by decide)) (fun _ h => absurd h (n0 1 (by decide))) (fun _ _ => zp_ushr v9 16 16 (by decide)) (fun _ _ => rfl) (fun _ _ => ⟨rfl, by omega⟩) (fun _ _ => nI_1 _) (fun _ _ => by decide) (fun _ _ => ?_)
  rw [zby_nar]
  refine sg_LB_add3 (n := (n + 1 + 1)) (q8 := v9.toBitVec.toNat / 2 ^ 8) (s9 := 8) (s8 := 0) C hr hlk (fun h => absurd h (by decide)) (fun _ h => absurd h (n0 2 (by decide))) (fun _ _ => zp_ushr v9 8 8 (by decide)) (fun _ _ => rfl) (fun _ _ => ⟨rfl, by omega⟩) (fun _ _ => nI_1 _) (fun _ _ => by decide) (fun _ _ => ?_)
  rw [zby_nar]
  refine sg_LB_add3 (n := (n + 1 + 1 + 1)) (q8 := v9.toBitVec.toNat / 2 ^ 0) (s9 := 0) (s8 := -8) C hr hlk (fun h => absurd h (by decide)) (fun _ h => absurd h (n0 3 (by decide))) (fun _ _ => zp_ushr v9 0 0 (by decide)) (fun _ _ => rfl) (fun _ _ => ⟨rfl, by omega⟩) (fun _ _ => nI_1 _) (fun _ _ => by decide) (fun _ _ => ?_)
  rw [zby_nar]
  have hneg : (-8 : Int32) < 0 := by decide
  exact sg_LB_add3 (n := n + 1 + 1 + 1 + 1) (q8 := 0) (s9 := -8) (s8 := 0) C hr hlk (fun _ => ⟨rfl, rfl⟩) (fun h => absurd hneg h) (fun h => absurd hneg h) (fun h => absurd hneg h) (fun h => absurd hneg h) (fun h => absurd hneg h) (fun h => absurd hneg h) (fun h => absurd hneg h)
set_option maxRecDepth 100000 in
set_option maxHeartbeats 4000000 in
theorem sg_LB_feed {p : Program} {l : Launch} {e : Env} {s : State} {mi : MethodId} {args : Array Value} {below : List Frame} {meth : Method} {co : Code} {D : va_G} {cB cI cL : ClassId} {w0 : va_W} {kr nr : Nat} {post : Outcome → va_W → Prop} (C : zx_C p s mi args co b_LB_feed 6 R_LB zB D zcl (zt cB cI cL) (va_A w0 s.heap.size)) {ax t rr sp ua pa n r : Nat} {a1 a2 a3 a4 a5 : Int32} {f : Nat → Int32} (hfd : nI n ≤ (16364 : Int32) → n ≤ 16364) (hr9 : meth.sig.returnType = some .int) (hlk9 : meth.locks = false) (hl9 : l.stackTraces = false) (ht9 : co.exceptionTable.toList.map (fun h => (h.startPc, h.endPc, h.handlerPc, h.catchType)) = []) (r51 : ((nI n) ≤ (16364 : Int32)) → post (.returned (some (.int (nI (n + 20))))) [(ax, .inr (4, [.ref t, .int (nI (n + 20)), .ref rr, .ref sp, .int (nI r), .ref ua, .ref pa])), (t, .inl (cB, 16384, .inl (zad (zad (zad (zad (zad f n a1) (n + 4) a2) (n + 8) a3) (n + 12) a4) (n + 16) a5)))]) (t10 : (¬ (nI n) ≤ (16364 : Int32)) → ∀ x9 : Nat, post (.threw x9) [(ax, .inr (4, [.ref t, .int (nI n), .ref rr, .ref sp, .int (nI r), .ref ua, .ref pa])), (t, .inl (cB, 16384, .inl f)), (x9, .inr (8, []))]) : zx_At p l e (zr 8 1 6) s mi args below meth co (zx_Q below s D zcl w0 kr nr (zr 8 1 6) post) D zcl (va_A w0 s.heap.size) 6 [(0, .ref ax), (1, .int a1), (2, .int a2), (3, .int a3), (4, .int a4), (5, .int a5)] [(ax, .inr (4, [.ref t, .int (nI n), .ref rr, .ref sp, .int (nI r), .ref ua, .ref pa])), (t, .inl (cB, 16384, .inl f))] 0 0 0 [] := by
  refine zx_aload_n (pc := 0) C d_LB_feed_0 rfl 0 rfl ?_
  refine zx_get (pc := 1) (ci := 4) (Cn := R_LB) (T := T_LB) (N := 7) (v := .int (nI n)) C zu_LB 0 rfl rfl 1 (by decide) zw_130 rfl rfl d_LB_feed_1 ?_
  refine zx_sipush (pc := 4) C d_LB_feed_4 (v := (16364 : Int32)) (by decide) ?_
  refine zx_icmp_le (pc := 7) C 20 d_LB_feed_7 (by decide) (fun c7 => ?_) (fun c7 => ?_)
  · refine zx_aload_n (pc := 20) C d_LB_feed_20 rfl 0 rfl ?_
    refine zx_iload_n (pc := 21) C d_LB_feed_21 rfl 1 rfl ?_
    refine zx_callV (pc := 22) (ix := 47) (As := [.int a1]) (b := ax) (q0 := 0) (wr := []) (st := []) C (zx_cw.of (C.w zw_237)) (by decide +kernel) ⟨by decide +kernel, by decide +kernel⟩ zw_236 zs_LB_addToTape zw_234 rfl rfl rfl rfl rfl (k_LB_addToTape l D cB cI cL (zr 0 0 0) ax t rr sp ua pa n r a1 f (by have := hfd c7; omega)) rfl [0, 1] [] rfl rfl (by decide) (by decide) (by decide) (Nat.le_of_ble_eq_true rfl) (Nat.le_of_ble_eq_true rfl) (Nat.le_of_ble_eq_true rfl) (Nat.le_of_ble_eq_true rfl) d_LB_feed_22 (fun o w1 hp => ?_)
    obtain ⟨rfl, rfl⟩ := hp
    refine zx_rv (k2 := 0) (n2 := 0) rfl rfl ?_
    refine zx_ws (ws' := [(ax, .inr (4, [.ref t, .int (nI (n + 4)), .ref rr, .ref sp, .int (nI r), .ref ua, .ref pa])), (t, .inl (cB, 16384, .inl (zad f n a1)))]) [0, 1] (by decide) rfl ?_
    refine zx_aload_n (pc := 25) C d_LB_feed_25 rfl 0 rfl ?_
    refine zx_iload_n (pc := 26) C d_LB_feed_26 rfl 2 rfl ?_
    refine zx_callV (pc := 27) (ix := 47) (As := [.int a2]) (b := ax) (q0 := 0) (wr := []) (st := []) C (zx_cw.of (C.w zw_237)) (by decide +kernel) ⟨by decide +kernel, by decide +kernel⟩ zw_236 zs_LB_addToTape zw_234 rfl rfl rfl rfl rfl (k_LB_addToTape l D cB cI cL (zr 0 0 0) ax t rr sp ua pa (n + 4) r a2 (zad f n a1) (by have := hfd c7; omega)) rfl [0, 1] [] rfl rfl (by decide) (by decide) (by decide) (Nat.le_of_ble_eq_true rfl) (Nat.le_of_ble_eq_true rfl) (Nat.le_of_ble_eq_true rfl) (Nat.le_of_ble_eq_true rfl) d_LB_feed_27 (fun o w1 hp => ?_)
    obtain ⟨rfl, rfl⟩ := hp
    refine zx_rv (k2 := 0) (n2 := 0) rfl rfl ?_
    refine zx_ws (ws' := [(ax, .inr (4, [.ref t, .int (nI (n + 8)), .ref rr, .ref sp, .int (nI r), .ref ua, .ref pa])), (t, .inl (cB, 16384, .inl (zad (zad f n a1) (n + 4) a2)))]) [0, 1] (by decide) rfl ?_
    refine zx_aload_n (pc := 30) C d_LB_feed_30 rfl 0 rfl ?_
    refine zx_iload_n (pc := 31) C d_LB_feed_31 rfl 3 rfl ?_
    refine zx_callV (pc := 32) (ix := 47) (As := [.int a3]) (b := ax) (q0 := 0) (wr := []) (st := []) C (zx_cw.of (C.w zw_237)) (by decide +kernel) ⟨by decide +kernel, by decide +kernel⟩ zw_236 zs_LB_addToTape zw_234 rfl rfl rfl rfl rfl (k_LB_addToTape l D cB cI cL (zr 0 0 0) ax t rr sp ua pa (n + 8) r a3 (zad (zad f n a1) (n + 4) a2) (by have := hfd c7; omega)) rfl [0, 1] [] rfl rfl (by decide) (by decide) (by decide) (Nat.le_of_ble_eq_true rfl) (Nat.le_of_ble_eq_true rfl) (Nat.le_of_ble_eq_true rfl) (Nat.le_of_ble_eq_true rfl) d_LB_feed_32 (fun o w1 hp => ?_)
    obtain ⟨rfl, rfl⟩ := hp
    refine zx_rv (k2 := 0) (n2 := 0) rfl rfl ?_
    refine zx_ws (ws' := [(ax, .inr (4, [.ref t, .int (nI (n + 12)), .ref rr, .ref sp, .int (nI r), .ref ua, .ref pa])), (t, .inl (cB, 16384, .inl (zad (zad (zad f n a1) (n + 4) a2) (n + 8) a3)))]) [0, 1] (by decide) rfl ?_
    refine zx_aload_n (pc := 35) C d_LB_feed_35 rfl 0 rfl ?_
    refine zx_iload (pc := 36) C d_LB_feed_36 4 rfl ?_
    refine zx_callV (pc := 38) (ix := 47) (As := [.int a4]) (b := ax) (q0 := 0) (wr := []) (st := []) C (zx_cw.of (C.w zw_237)) (by decide +kernel) ⟨by decide +kernel, by decide +kernel⟩ zw_236 zs_LB_addToTape zw_234 rfl rfl rfl rfl rfl (k_LB_addToTape l D cB cI cL (zr 0 0 0) ax t rr sp ua pa (n + 12) r a4 (zad (zad (zad f n a1) (n + 4) a2) (n + 8) a3) (by have := hfd c7; omega)) rfl [0, 1] [] rfl rfl (by decide) (by decide) (by decide) (Nat.le_of_ble_eq_true rfl) (Nat.le_of_ble_eq_true rfl) (Nat.le_of_ble_eq_true rfl) (Nat.le_of_ble_eq_true rfl) d_LB_feed_38 (fun o w1 hp => ?_)
    obtain ⟨rfl, rfl⟩ := hp
    refine zx_rv (k2 := 0) (n2 := 0) rfl rfl ?_
    refine zx_ws (ws' := [(ax, .inr (4, [.ref t, .int (nI (n + 16)), .ref rr, .ref sp, .int (nI r), .ref ua, .ref pa])), (t, .inl (cB, 16384, .inl (zad (zad (zad (zad f n a1) (n + 4) a2) (n + 8) a3) (n + 12) a4)))]) [0, 1] (by decide) rfl ?_
    refine zx_aload_n (pc := 41) C d_LB_feed_41 rfl 0 rfl ?_
    refine zx_iload (pc := 42) C d_LB_feed_42 5 rfl ?_
    refine zx_callV (pc := 44) (ix := 47) (As := [.int a5]) (b := ax) (q0 := 0) (wr := []) (st := []) C (zx_cw.of (C.w zw_237)) (by decide +kernel) ⟨by decide +kernel, by decide +kernel⟩ zw_236 zs_LB_addToTape zw_234 rfl rfl rfl rfl rfl (k_LB_addToTape l D cB cI cL (zr 0 0 0) ax t rr sp ua pa (n + 16) r a5 (zad (zad (zad (zad f n a1) (n + 4) a2) (n + 8) a3) (n + 12) a4) (by have := hfd c7; omega)) rfl [0, 1] [] rfl rfl (by decide) (by decide) (by decide) (Nat.le_of_ble_eq_true rfl) (Nat.le_of_ble_eq_true rfl) (Nat.le_of_ble_eq_true rfl) (Nat.le_of_ble_eq_true rfl) d_LB_feed_44 (fun o w1 hp => ?_)
    obtain ⟨rfl, rfl⟩ := hp
    refine zx_rv (k2 := 0) (n2 := 0) rfl rfl ?_
    refine zx_ws (ws' := [(ax, .inr (4, [.ref t, .int (nI (n + 20)), .ref rr, .ref sp, .int (nI r), .ref ua, .ref pa])), (t, .inl (cB, 16384, .inl (zad (zad (zad (zad (zad f n a1) (n + 4) a2) (n + 8) a3) (n + 12) a4) (n + 16) a5)))]) [0, 1] (by decide) rfl ?_
    refine zx_aload_n (pc := 47) C d_LB_feed_47 rfl 0 rfl ?_
    refine zx_get (pc := 48) (ci := 4) (Cn := R_LB) (T := T_LB) (N := 7) (v := .int (nI (n + 20))) C zu_LB 0 rfl rfl 1 (by decide) zw_130 rfl rfl d_LB_feed_48 ?_
    exact zx_iret (pc := 51) C hr9 hlk9 (Nat.zero_le _) (Nat.zero_le _) d_LB_feed_51 (r51 c7)
  · exact zx_throwS (pc := 10) (names := zex) (ci := 8) C hl9 (by decide +kernel) zex_fit zw_166 zw_10 zw_208 zh_LB_44 rfl hlk9 (zx_noTab ht9 _) d_LB_feed_10 d_LB_feed_13 d_LB_feed_14 d_LB_feed_16 d_LB_feed_19 (Nat.le_of_ble_eq_true rfl) (Nat.le_of_ble_eq_true rfl) (Nat.le_of_ble_eq_true rfl) (Nat.le_of_ble_eq_true rfl) (t10 c7)

theorem k_LB_feed (l : Launch) (D : va_G) (cB cI cL : ClassId) (hl : l.stackTraces = false) (ax t rr sp ua pa n r : Nat) (a1 a2 a3 a4 a5 : Int32) (f : Nat → Int32) (hn : n ≤ 16384) : zx_K l zB D zcl (zt cB cI cL) y_LB_feed b_LB_feed 6 (some .int) [] 0 0 (zr 8 1 6) [.ref ax, .int a1, .int a2, .int a3, .int a4, .int a5] [(ax, .inr (4, [.ref t, .int (nI n), .ref rr, .ref sp, .int (nI r), .ref ua, .ref pa])), (t, .inl (cB, 16384, .inl f))] (fun o w => ((16364 < n) ∧ ∃ x0 : Nat, o = .threw x0 ∧ w = [(ax, .inr (4, [.ref t, .int (nI n), .ref rr, .ref sp, .int (nI r), .ref ua, .ref pa])), (t, .inl (cB, 16384, .inl f)), (x0, .inr (8, []))]) ∨ (¬ (16364 < n) ∧ o = .returned (some (.int (nI (n + 20)))) ∧ w = [(ax, .inr (4, [.ref t, .int (nI (n + 20)), .ref rr, .ref sp, .int (nI r), .ref ua, .ref pa])), (t, .inl (cB, 16384, .inl (zad (zad (zad (zad (zad f n a1) (n + 4) a2) (n + 8) a3) (n + 12) a4) (n + 16) a5)))])) := by
  refine zx_K.mk (Nat.le_of_ble_eq_true rfl) (fun p e s mm below meth c9 C hr hlk ht hnm => ?_)
  have key : nI n ≤ (16364 : Int32) ↔ n ≤ 16364 := zp_le (k := 16364) rfl (by omega) (by decide)
  exact sg_LB_feed C key.mp hr hlk hl ht (fun h => Or.inr ⟨by have := key.mp h; omega, rfl, rfl⟩) (fun h x0 => Or.inl ⟨by have := mt key.mpr h; omega, x0, rfl, rfl⟩)
set_option maxRecDepth 100000 in
set_option maxHeartbeats 4000000 in
theorem sg_LB_isx {p : Program} {l : Launch} {e : Env} {R : Room} {s : State} {mi : MethodId} {args : Array Value} {below : List Frame} {meth : Method} {co : Code} {D : va_G} {cB cI cL : ClassId} {Q : State → Prop} {A : Nat → Prop} (C : zx_C p s mi args co b_LB_tapeIsIndices 3 R_LB zB D zcl (zt cB cI cL) A) {ax t rr sp ua pa n r m : Nat} {f : Nat → Int32} (k2 : zx_At p l e R s mi args below meth co Q D zcl A 3 [(0, .ref ax), (1, .int (nI m)), (2, .int (0 : Int32))] [(ax, .inr (4, [.ref t, .int (nI n), .ref rr, .ref sp, .int (nI r), .ref ua, .ref pa])), (t, .inl (cB, 16384, .inl f))] 0 0 2 []) : zx_At p l e R s mi args below meth co Q D zcl A 3 [(0, .ref ax), (1, .int (nI m))] [(ax, .inr (4, [.ref t, .int (nI n), .ref rr, .ref sp, .int (nI r), .ref ua, .ref pa])), (t, .inl (cB, 16384, .inl f))] 0 0 0 [] := by
  refine zx_iconst (pc := 0) C d_LB_tapeIsIndices_0 (v := (0 : Int32)) (by decide) ?_
  refine zx_istore_n (pc := 1) C d_LB_tapeIsIndices_1 rfl (by decide) (lv' := [(2, .int (0 : Int32)), (0, .ref ax), (1, .int (nI m))]) rfl ?_
  refine zx_lv (lv' := [(0, .ref ax), (1, .int (nI m)), (2, .int (0 : Int32))]) [1, 2, 0] rfl ?_
  exact k2

set_option maxRecDepth 100000 in
set_option maxHeartbeats 4000000 in
theorem sg_LB_isx2 {p : Program} {l : Launch} {e : Env} {R : Room} {s : State} {mi : MethodId} {args : Array Value} {below : List Frame} {meth : Method} {co : Code} {D : va_G} {cB cI cL : ClassId} {w0 : va_W} {kr nr : Nat} {post : Outcome → va_W → Prop} (C : zx_C p s mi args co b_LB_tapeIsIndices 3 R_LB zB D zcl (zt cB cI cL) (va_A w0 s.heap.size)) {ax t rr sp ua pa n r m i : Nat} {f : Nat → Int32} (hr9 : meth.sig.returnType = some .boolean) (hlk9 : meth.locks = false) (r46 : ((nI n) ≤ (nI i)) → ((nI n) ≤ 0) → post (.returned (some (.int (0 : Int32)))) [(ax, .inr (4, [.ref t, .int (nI n), .ref rr, .ref sp, .int (nI r), .ref ua, .ref pa])), (t, .inl (cB, 16384, .inl f))]) (r46_2 : ((nI n) ≤ (nI i)) → (¬ (nI n) ≤ 0) → post (.returned (some (.int (1 : Int32)))) [(ax, .inr (4, [.ref t, .int (nI n), .ref rr, .ref sp, .int (nI r), .ref ua, .ref pa])), (t, .inl (cB, 16384, .inl f))]) (b15 : (¬ (nI n) ≤ (nI i)) → (nI i) = nI i ∧ i < 16384) (e19 : (¬ (nI n) ≤ (nI i)) → ((f i) &&& (255 : Int32)) = (nI (zu (f i)))) (e22 : (¬ (nI n) ≤ (nI i)) → ((1 : Int32) <<< ((nI m) &&& 31)) = (nI (2 ^ m))) (e28 : (¬ (nI n) ≤ (nI i)) → ((nI (zu (f i))) < (nI (2 ^ m))) → (nI i) + (1 : Int32) = (nI (i + 1))) (k2 : (¬ (nI n) ≤ (nI i)) → ((nI (zu (f i))) < (nI (2 ^ m))) → zx_At p l e R s mi args below meth co (zx_Q below s D zcl w0 kr nr R post) D zcl (va_A w0 s.heap.size) 3 [(0, .ref ax), (1, .int (nI m)), (2, .int (nI (i + 1)))] [(ax, .inr (4, [.ref t, .int (nI n), .ref rr, .ref sp, .int (nI r), .ref ua, .ref pa])), (t, .inl (cB, 16384, .inl f))] 0 0 2 []) (r27 : (¬ (nI n) ≤ (nI i)) → (¬ (nI (zu (f i))) < (nI (2 ^ m))) → post (.returned (some (.int (0 : Int32)))) [(ax, .inr (4, [.ref t, .int (nI n), .ref rr, .ref sp, .int (nI r), .ref ua, .ref pa])), (t, .inl (cB, 16384, .inl f))]) : zx_At p l e R s mi args below meth co (zx_Q below s D zcl w0 kr nr R post) D zcl (va_A w0 s.heap.size) 3 [(0, .ref ax), (1, .int (nI m)), (2, .int (nI i))] [(ax, .inr (4, [.ref t, .int (nI n), .ref rr, .ref sp, .int (nI r), .ref ua, .ref pa])), (t, .inl (cB, 16384, .inl f))] 0 0 2 [] := by
  refine zx_iload_n (pc := 2) C d_LB_tapeIsIndices_2 rfl 2 rfl ?_
  refine zx_aload_n (pc := 3) C d_LB_tapeIsIndices_3 rfl 0 rfl ?_
  refine zx_get (pc := 4) (ci := 4) (Cn := R_LB) (T := T_LB) (N := 7) (v := .int (nI n)) C zu_LB 0 rfl rfl 1 (by decide) zw_130 rfl rfl d_LB_tapeIsIndices_4 ?_
  refine zx_icmp_ge (pc := 7) C 34 d_LB_tapeIsIndices_7 (by decide) (fun c7 => ?_) (fun c7 => ?_)
  · refine zx_aload_n (pc := 34) C d_LB_tapeIsIndices_34 rfl 0 rfl ?_
    refine zx_get (pc := 35) (ci := 4) (Cn := R_LB) (T := T_LB) (N := 7) (v := .int (nI n)) C zu_LB 0 rfl rfl 1 (by decide) zw_130 rfl rfl d_LB_tapeIsIndices_35 ?_
    refine zx_if_le (pc := 38) C 45 d_LB_tapeIsIndices_38 (by decide) (fun c38 => ?_) (fun c38 => ?_)
    · refine zx_iconst (pc := 45) C d_LB_tapeIsIndices_45 (v := (0 : Int32)) (by decide) ?_
      exact zx_zret (pc := 46) C hr9 (Or.inl rfl) hlk9 (Nat.zero_le _) (Nat.zero_le _) d_LB_tapeIsIndices_46 (r46 c7 c38)
    · refine zx_iconst (pc := 41) C d_LB_tapeIsIndices_41 (v := (1 : Int32)) (by decide) ?_
      refine zx_goto (pc := 42) C 46 d_LB_tapeIsIndices_42 (by decide) ?_
      exact zx_zret (pc := 46) C hr9 (Or.inr rfl) hlk9 (Nat.zero_le _) (Nat.zero_le _) d_LB_tapeIsIndices_46 (r46_2 c7 c38)
  · refine zx_aload_n (pc := 10) C d_LB_tapeIsIndices_10 rfl 0 rfl ?_
    refine zx_get (pc := 11) (ci := 4) (Cn := R_LB) (T := T_LB) (N := 7) (v := .ref t) C zu_LB 0 rfl rfl 0 (by decide) zw_129 rfl rfl d_LB_tapeIsIndices_11 ?_
    refine zx_iload_n (pc := 14) C d_LB_tapeIsIndices_14 rfl 2 rfl ?_
    refine zx_bald (pc := 15) C 1 0 rfl rfl i (b15 c7).1 (b15 c7).2 (by decide) d_LB_tapeIsIndices_15 ?_
    refine zx_sipush (pc := 16) C d_LB_tapeIsIndices_16 (v := (255 : Int32)) (by decide) ?_
    refine zx_iand (pc := 19) C d_LB_tapeIsIndices_19 ?_
    refine zx_seti (nI (zu (f i))) (e19 c7) ?_
    refine zx_iconst (pc := 20) C d_LB_tapeIsIndices_20 (v := (1 : Int32)) (by decide) ?_
    refine zx_iload_n (pc := 21) C d_LB_tapeIsIndices_21 rfl 1 rfl ?_
    refine zx_ishl (pc := 22) C d_LB_tapeIsIndices_22 ?_
    refine zx_seti (nI (2 ^ m)) (e22 c7) ?_
    refine zx_icmp_lt (pc := 23) C 28 d_LB_tapeIsIndices_23 (by decide) (fun c23 => ?_) (fun c23 => ?_)
    · refine zx_iinc (pc := 28) C d_LB_tapeIsIndices_28 2 rfl (v := (nI (i + 1))) (e28 c7 c23) (by decide) (lv' := [(2, .int (nI (i + 1))), (0, .ref ax), (1, .int (nI m))]) rfl ?_
      refine zx_goto (pc := 31) C 2 d_LB_tapeIsIndices_31 (by decide) ?_
      refine zx_lv (lv' := [(0, .ref ax), (1, .int (nI m)), (2, .int (nI (i + 1)))]) [1, 2, 0] rfl ?_
      exact k2 c7 c23
    · refine zx_iconst (pc := 26) C d_LB_tapeIsIndices_26 (v := (0 : Int32)) (by decide) ?_
      exact zx_zret (pc := 27) C hr9 (Or.inl rfl) hlk9 (Nat.zero_le _) (Nat.zero_le _) d_LB_tapeIsIndices_27 (r27 c7 c23)

theorem k_LB_tapeIsIndices (l : Launch) (D : va_G) (cB cI cL : ClassId) (R : Room) (ax t rr sp ua pa n r m : Nat) (f : Nat → Int32) (hn : n ≤ 16384) (hm : m ≤ 8) : zx_K l zB D zcl (zt cB cI cL) y_LB_tapeIsIndices b_LB_tapeIsIndices 3 (some .boolean) [] 0 0 R [.ref ax, .int (nI m)] [(ax, .inr (4, [.ref t, .int (nI n), .ref rr, .ref sp, .int (nI r), .ref ua, .ref pa])), (t, .inl (cB, 16384, .inl f))] (fun o w => o = .returned (some (.int (zb (decide (0 < n ∧ ∀ j, j < n → zu (f j) < 2 ^ m))))) ∧ w = [(ax, .inr (4, [.ref t, .int (nI n), .ref rr, .ref sp, .int (nI r), .ref ua, .ref pa])), (t, .inl (cB, 16384, .inl f))]) := by
  refine zx_K.mk (Nat.le_of_ble_eq_true rfl) (fun p e s mm below meth c9 C hr hlk ht hnm => ?_)
  have loop : ∀ (d i : Nat), i + d = n → (∀ j, j < i → zu (f j) < 2 ^ m) → zx_At p l e R s mm (([.ref ax, .int (nI m)] : List Value)).toArray below meth c9 (zx_Q below s D zcl [(ax, .inr (4, [.ref t, .int (nI n), .ref rr, .ref sp, .int (nI r), .ref ua, .ref pa])), (t, .inl (cB, 16384, .inl f))] 0 0 R (fun o w => o = .returned (some (.int (zb (decide (0 < n ∧ ∀ j, j < n → zu (f j) < 2 ^ m))))) ∧ w = [(ax, .inr (4, [.ref t, .int (nI n), .ref rr, .ref sp, .int (nI r), .ref ua, .ref pa])), (t, .inl (cB, 16384, .inl f))])) D zcl (va_A [(ax, .inr (4, [.ref t, .int (nI n), .ref rr, .ref sp, .int (nI r), .ref ua, .ref pa])), (t, .inl (cB, 16384, .inl f))] s.heap.size) 3 [(0, .ref ax), (1, .int (nI m)), (2, .int (nI i))] [(ax, .inr (4, [.ref t, .int (nI n), .ref rr, .ref sp, .int (nI r), .ref ua, .ref pa])), (t, .inl (cB, 16384, .inl f))] 0 0 2 [] := by
    intro d
    have hp8 := zp_pow8 hm
    induction d with
    | zero =>
      intro i hi hj
      have key : nI n ≤ nI i := by rw [show i = n by omega]; exact Int32.le_refl _
      have k0 : nI n ≤ (0 : Int32) ↔ n ≤ 0 := zp_le (k := 0) rfl (by omega) (by decide)
      exact sg_LB_isx2 C hr hlk (fun _ z => ⟨by rw [decide_eq_false (fun q => by have := k0.mp z; omega)]; rfl, rfl⟩) (fun _ z => ⟨by rw [decide_eq_true ⟨by have := mt k0.mpr z; omega, fun j hj' => hj j (by omega)⟩]; rfl, rfl⟩) (fun z => absurd key z) (fun z => absurd key z) (fun z => absurd key z) (fun z => absurd key z) (fun z => absurd key z) (fun z => absurd key z)
    | succ d ih =>
      intro i hi hj
      have nk : ¬ nI n ≤ nI i := fun z => absurd ((nI_leI (by omega) (by omega)).mp z) (by omega)
      have hu := zu_lt (f i)
      have k1 : nI (zu (f i)) < nI (2 ^ m) ↔ zu (f i) < 2 ^ m := nI_ltI (by omega) (by omega)
      refine sg_LB_isx2 C hr hlk (fun z => absurd z nk) (fun z => absurd z nk) (fun _ => ⟨rfl, by omega⟩) (fun _ => zu_and _) (fun _ => zp_shl1 m (by omega)) (fun _ _ => nI_1 i) (fun _ z => ih (i + 1) (by omega) (fun j hj' => ?_)) (fun _ z => ⟨?_, rfl⟩)
      · by_cases q : j = i
        · rw [q]; exact k1.mp z
        · exact hj j (by omega)
      · rw [decide_eq_false (fun q => z (k1.mpr (q.2 i (by omega))))]; rfl
  exact sg_LB_isx C (loop n 0 (by omega) (fun j hj => absurd hj (Nat.not_lt_zero _)))
end
section
theorem zi_nn {x : Int32} (h : ¬ x < 0) : ∃ k, x = nI k ∧ k < 2 ^ 31 := by
  refine ⟨x.toBitVec.toNat, zI_nat x, ?_⟩
  have h0 : (0 : Int) ≤ x.toInt := by
    have := Int32.not_lt.mp h
    simpa using Int32.le_iff_toInt_le.mp this
  have h1 : x.toInt = x.toBitVec.toInt := rfl
  rw [h1, BitVec.toInt_eq_toNat_cond] at h0
  have := x.toBitVec.isLt
  split at h0 <;> omega
theorem zm_ok {m9 : Int32} (h : ¬ (m9 < 2 ∨ 8 < m9)) : ∃ m, m9 = nI m ∧ (2 ≤ m ∧ m ≤ 8) := by
  have h1 : ¬ m9 < 2 := fun z => h (Or.inl z)
  have h2 : ¬ (8 : Int32) < m9 := fun z => h (Or.inr z)
  obtain ⟨k, hk, hk2⟩ := zi_nn (x := m9) (fun z => h1 (Int32.lt_of_lt_of_le z (by decide)))
  rw [hk] at h1 h2
  refine ⟨k, hk, ?_, ?_⟩
  · exact Nat.le_of_not_lt fun z => h1 ((zp_lt (k := 2) rfl hk2 (by decide)).mpr z)
  · exact Nat.le_of_not_lt fun z => h2 ((zp_gt (k := 8) rfl hk2 (by decide)).mpr z)
theorem zm_no {m : Nat} (h : 2 ≤ m ∧ m ≤ 8) : ¬ (nI m < 2 ∨ (8 : Int32) < nI m) := by
  intro z
  rcases z with z | z
  · have := (zp_lt (k := 2) rfl (by omega) (by decide)).mp z; omega
  · have := (zp_gt (k := 8) rfl (by omega) (by decide)).mp z; omega
/-- the tape's first i bytes masked -/
def zmk (m : Nat) (f : Nat → Int32) (i : Nat) : Nat → Int32 := fun j => if j < i then (f j &&& nI (2 ^ m - 1)).toInt8.toInt32 else f j
theorem zmk_0 (m : Nat) (f : Nat → Int32) : zmk m f 0 = f := by funext j; simp [zmk]
theorem zmk_at (m : Nat) (f : Nat → Int32) (i : Nat) : zmk m f i i = f i := by simp [zmk]
theorem zmk_s (m : Nat) (f : Nat → Int32) (i : Nat) : upd (zmk m f i) i (vp_nar .byte (zmk m f i i &&& nI (2 ^ m - 1)).toInt8.toInt32) = zmk m f (i + 1) := by
  funext j
  rw [zmk_at, pk_vb]
  unfold upd zmk
  by_cases h : j = i
  · subst h; rw [if_pos rfl, if_pos (Nat.lt_succ_self _)]
  · rw [if_neg h]
    by_cases h2 : j < i
    · rw [if_pos h2, if_pos (by omega)]
    · rw [if_neg h2, if_neg (by omega)]
theorem zmk_by {m : Nat} {f : Nat → Int32} {i : Nat} (h : ∀ j, vp_nar .byte (f j) = f j) : ∀ j, vp_nar .byte (zmk m f i j) = zmk m f i j := fun j => by
  unfold zmk
  by_cases q : j < i
  · rw [if_pos q]; exact pk_vb _
  · rw [if_neg q]; exact h j
theorem zsub1 {k : Nat} (h : 1 ≤ k) : nI k - 1 = nI (k - 1) := by
  have e : nI k = nI (k - 1) + 1 := by rw [nI_1]; congr 1; omega
  rw [e]
  apply Int32.toBitVec_inj.mp
  simp
set_option maxRecDepth 100000 in
set_option maxHeartbeats 4000000 in
theorem sg_LB_mask0 {p : Program} {l : Launch} {e : Env} {s : State} {mi : MethodId} {args : Array Value} {below : List Frame} {meth : Method} {co : Code} {D : va_G} {cB cI cL : ClassId} {w0 : va_W} {kr nr : Nat} {post : Outcome → va_W → Prop} (C : zx_C p s mi args co b_LB_mask 4 R_LB zB D zcl (zt cB cI cL) (va_A w0 s.heap.size)) {ax t rr sp ua pa n r : Nat} {m9 : Int32} {f : Nat → Int32} (hr9 : meth.sig.returnType = none) (hlk9 : meth.locks = false) (hl9 : l.stackTraces = false) (ht9 : co.exceptionTable.toList.map (fun h => (h.startPc, h.endPc, h.handlerPc, h.catchType)) = []) (t1 : (m9 < 2 ∨ 8 < m9) → ∀ x9 : Nat, post (.threw x9) [(ax, .inr (4, [.ref t, .int (nI n), .ref rr, .ref sp, .int (nI r), .ref ua, .ref pa])), (t, .inl (cB, 16384, .inl f)), (x9, .inr (6, []))]) (k4 : (¬ (m9 < 2 ∨ 8 < m9)) → zx_At p l e (zr 9 1 6) s mi args below meth co (zx_Q below s D zcl w0 kr nr (zr 9 1 6) post) D zcl (va_A w0 s.heap.size) 4 [(0, .ref ax), (1, .int m9)] [(ax, .inr (4, [.ref t, .int (nI n), .ref rr, .ref sp, .int (nI r), .ref ua, .ref pa])), (t, .inl (cB, 16384, .inl f))] 0 0 4 []) : zx_At p l e (zr 9 1 6) s mi args below meth co (zx_Q below s D zcl w0 kr nr (zr 9 1 6) post) D zcl (va_A w0 s.heap.size) 4 [(0, .ref ax), (1, .int m9)] [(ax, .inr (4, [.ref t, .int (nI n), .ref rr, .ref sp, .int (nI r), .ref ua, .ref pa])), (t, .inl (cB, 16384, .inl f))] 0 0 0 [] := by
  refine zx_iload_n (pc := 0) C d_LB_mask_0 rfl 1 rfl ?_
  refine zx_callS (pc := 1) (ix := 62) (wr := [(ax, .inr (4, [.ref t, .int (nI n), .ref rr, .ref sp, .int (nI r), .ref ua, .ref pa])), (t, .inl (cB, 16384, .inl f))]) (st := []) C (zx_cw.of (C.w zw_272)) (by decide +kernel) ⟨by decide +kernel, by decide +kernel⟩ zw_271 zw_1 zw_270 rfl (k_LB_checkM l D cB cI cL hl9 m9) rfl [] [0, 1] rfl rfl (by decide) (by decide) (by decide) (Nat.le_of_ble_eq_true rfl) (Nat.le_of_ble_eq_true rfl) (Nat.le_of_ble_eq_true rfl) (Nat.le_of_ble_eq_true rfl) d_LB_mask_1 (fun o w1 hp => ?_)
  rcases hp with ⟨hc1, x9, rfl, rfl⟩ | ⟨hc1, rfl, rfl⟩
  · exact zx_rt (k2 := 1) (n2 := 6) rfl rfl (zx_leave hlk9 (zx_noTab ht9 _) (Nat.le_of_ble_eq_true rfl) (Nat.le_of_ble_eq_true rfl) (t1 hc1 x9))
  · refine zx_rv (k2 := 0) (n2 := 0) rfl rfl ?_
    refine zx_ws (ws' := [(ax, .inr (4, [.ref t, .int (nI n), .ref rr, .ref sp, .int (nI r), .ref ua, .ref pa])), (t, .inl (cB, 16384, .inl f))]) [0, 1] (by decide) rfl ?_
    exact k4 hc1

set_option maxRecDepth 100000 in
set_option maxHeartbeats 4000000 in
theorem sg_LB_mask4 {p : Program} {l : Launch} {e : Env} {R : Room} {s : State} {mi : MethodId} {args : Array Value} {below : List Frame} {meth : Method} {co : Code} {D : va_G} {cB cI cL : ClassId} {Q : State → Prop} {A : Nat → Prop} (C : zx_C p s mi args co b_LB_mask 4 R_LB zB D zcl (zt cB cI cL) A) {ax t rr sp ua pa n r m : Nat} {f : Nat → Int32} (e6 : ((1 : Int32) <<< ((nI m) &&& 31)) = (nI (2 ^ m))) (e8 : ((nI (2 ^ m)) - (1 : Int32)) = (nI (2 ^ m - 1))) (k12 : zx_At p l e R s mi args below meth co Q D zcl A 4 [(0, .ref ax), (1, .int (nI m)), (2, .int (nI (2 ^ m - 1))), (3, .int (0 : Int32))] [(ax, .inr (4, [.ref t, .int (nI n), .ref rr, .ref sp, .int (nI r), .ref ua, .ref pa])), (t, .inl (cB, 16384, .inl f))] 0 0 12 []) : zx_At p l e R s mi args below meth co Q D zcl A 4 [(0, .ref ax), (1, .int (nI m))] [(ax, .inr (4, [.ref t, .int (nI n), .ref rr, .ref sp, .int (nI r), .ref ua, .ref pa])), (t, .inl (cB, 16384, .inl f))] 0 0 4 [] := by
  refine zx_iconst (pc := 4) C d_LB_mask_4 (v := (1 : Int32)) (by decide) ?_
  refine zx_iload_n (pc := 5) C d_LB_mask_5 rfl 1 rfl ?_
  refine zx_ishl (pc := 6) C d_LB_mask_6 ?_
  refine zx_seti (nI (2 ^ m)) (e6) ?_
  refine zx_iconst (pc := 7) C d_LB_mask_7 (v := (1 : Int32)) (by decide) ?_
  refine zx_isub (pc := 8) C d_LB_mask_8 ?_
  refine zx_seti (nI (2 ^ m - 1)) (e8) ?_
  refine zx_istore_n (pc := 9) C d_LB_mask_9 rfl (by decide) (lv' := [(2, .int (nI (2 ^ m - 1))), (0, .ref ax), (1, .int (nI m))]) rfl ?_
  refine zx_iconst (pc := 10) C d_LB_mask_10 (v := (0 : Int32)) (by decide) ?_
  refine zx_istore_n (pc := 11) C d_LB_mask_11 rfl (by decide) (lv' := [(3, .int (0 : Int32)), (2, .int (nI (2 ^ m - 1))), (0, .ref ax), (1, .int (nI m))]) rfl ?_
  refine zx_lv (lv' := [(0, .ref ax), (1, .int (nI m)), (2, .int (nI (2 ^ m - 1))), (3, .int (0 : Int32))]) [2, 3, 1, 0] rfl ?_
  exact k12

set_option maxRecDepth 100000 in
set_option maxHeartbeats 4000000 in
theorem sg_LB_mask12 {p : Program} {l : Launch} {e : Env} {R : Room} {s : State} {mi : MethodId} {args : Array Value} {below : List Frame} {meth : Method} {co : Code} {D : va_G} {cB cI cL : ClassId} {w0 : va_W} {kr nr : Nat} {post : Outcome → va_W → Prop} (C : zx_C p s mi args co b_LB_mask 4 R_LB zB D zcl (zt cB cI cL) (va_A w0 s.heap.size)) {ax t rr sp ua pa n r m i : Nat} {f : Nat → Int32} (hr9 : meth.sig.returnType = none) (hlk9 : meth.locks = false) (r41 : ((nI n) ≤ (nI i)) → post (.returned none) [(ax, .inr (4, [.ref t, .int (nI n), .ref rr, .ref sp, .int (nI r), .ref ua, .ref pa])), (t, .inl (cB, 16384, .inl f))]) (b30 : (¬ (nI n) ≤ (nI i)) → (nI i) = nI i ∧ i < 16384) (b34 : (¬ (nI n) ≤ (nI i)) → (nI i) = nI i ∧ i < 16384) (e35 : (¬ (nI n) ≤ (nI i)) → (nI i) + (1 : Int32) = (nI (i + 1))) (k12 : (¬ (nI n) ≤ (nI i)) → zx_At p l e R s mi args below meth co (zx_Q below s D zcl w0 kr nr R post) D zcl (va_A w0 s.heap.size) 4 [(0, .ref ax), (1, .int (nI m)), (2, .int (nI (2 ^ m - 1))), (3, .int (nI (i + 1)))] [(ax, .inr (4, [.ref t, .int (nI n), .ref rr, .ref sp, .int (nI r), .ref ua, .ref pa])), (t, .inl (cB, 16384, .inl (upd f i (vp_nar .byte (((f i) &&& (nI (2 ^ m - 1))).toInt8.toInt32)))))] 0 0 12 []) : zx_At p l e R s mi args below meth co (zx_Q below s D zcl w0 kr nr R post) D zcl (va_A w0 s.heap.size) 4 [(0, .ref ax), (1, .int (nI m)), (2, .int (nI (2 ^ m - 1))), (3, .int (nI i))] [(ax, .inr (4, [.ref t, .int (nI n), .ref rr, .ref sp, .int (nI r), .ref ua, .ref pa])), (t, .inl (cB, 16384, .inl f))] 0 0 12 [] := by
  refine zx_iload_n (pc := 12) C d_LB_mask_12 rfl 3 rfl ?_
  refine zx_aload_n (pc := 13) C d_LB_mask_13 rfl 0 rfl ?_
  refine zx_get (pc := 14) (ci := 4) (Cn := R_LB) (T := T_LB) (N := 7) (v := .int (nI n)) C zu_LB 0 rfl rfl 1 (by decide) zw_130 rfl rfl d_LB_mask_14 ?_
  refine zx_icmp_ge (pc := 17) C 41 d_LB_mask_17 (by decide) (fun c17 => ?_) (fun c17 => ?_)
  · exact zx_vret (pc := 41) C hr9 hlk9 (Nat.zero_le _) (Nat.zero_le _) d_LB_mask_41 (r41 c17)
  · refine zx_aload_n (pc := 20) C d_LB_mask_20 rfl 0 rfl ?_
    refine zx_get (pc := 21) (ci := 4) (Cn := R_LB) (T := T_LB) (N := 7) (v := .ref t) C zu_LB 0 rfl rfl 0 (by decide) zw_129 rfl rfl d_LB_mask_21 ?_
    refine zx_iload_n (pc := 24) C d_LB_mask_24 rfl 3 rfl ?_
    refine zx_aload_n (pc := 25) C d_LB_mask_25 rfl 0 rfl ?_
    refine zx_get (pc := 26) (ci := 4) (Cn := R_LB) (T := T_LB) (N := 7) (v := .ref t) C zu_LB 0 rfl rfl 0 (by decide) zw_129 rfl rfl d_LB_mask_26 ?_
    refine zx_iload_n (pc := 29) C d_LB_mask_29 rfl 3 rfl ?_
    refine zx_bald (pc := 30) C 1 0 rfl rfl i (b30 c17).1 (b30 c17).2 (by decide) d_LB_mask_30 ?_
    refine zx_iload_n (pc := 31) C d_LB_mask_31 rfl 2 rfl ?_
    refine zx_iand (pc := 32) C d_LB_mask_32 ?_
    refine zx_i2b (pc := 33) C d_LB_mask_33 rfl ?_
    refine zx_bast (pc := 34) (ws' := [(ax, .inr (4, [.ref t, .int (nI n), .ref rr, .ref sp, .int (nI r), .ref ua, .ref pa])), (t, .inl (cB, 16384, .inl (upd f i (vp_nar .byte (((f i) &&& (nI (2 ^ m - 1))).toInt8.toInt32)))))]) C 1 0 rfl rfl i (b34 c17).1 (b34 c17).2 (by decide) rfl d_LB_mask_34 ?_
    refine zx_iinc (pc := 35) C d_LB_mask_35 3 rfl (v := (nI (i + 1))) (e35 c17) (by decide) (lv' := [(3, .int (nI (i + 1))), (0, .ref ax), (1, .int (nI m)), (2, .int (nI (2 ^ m - 1)))]) rfl ?_
    refine zx_goto (pc := 38) C 12 d_LB_mask_38 (by decide) ?_
    refine zx_lv (lv' := [(0, .ref ax), (1, .int (nI m)), (2, .int (nI (2 ^ m - 1))), (3, .int (nI (i + 1)))]) [1, 2, 3, 0] rfl ?_
    exact k12 c17

theorem k_LB_mask (l : Launch) (D : va_G) (cB cI cL : ClassId) (hl : l.stackTraces = false) (ax t rr sp ua pa n r : Nat) (m9 : Int32) (f : Nat → Int32) (hn : n ≤ 16384) : zx_K l zB D zcl (zt cB cI cL) y_LB_mask b_LB_mask 4 (none) [] 0 0 (zr 9 1 6) [.ref ax, .int m9] [(ax, .inr (4, [.ref t, .int (nI n), .ref rr, .ref sp, .int (nI r), .ref ua, .ref pa])), (t, .inl (cB, 16384, .inl f))] (fun o w => ((m9 < 2 ∨ 8 < m9) ∧ ∃ x0 : Nat, o = .threw x0 ∧ w = [(ax, .inr (4, [.ref t, .int (nI n), .ref rr, .ref sp, .int (nI r), .ref ua, .ref pa])), (t, .inl (cB, 16384, .inl f)), (x0, .inr (6, []))]) ∨ (∃ m1 : Nat, (m9 = nI m1 ∧ 2 ≤ m1 ∧ m1 ≤ 8) ∧ o = .returned none ∧ w = [(ax, .inr (4, [.ref t, .int (nI n), .ref rr, .ref sp, .int (nI r), .ref ua, .ref pa])), (t, .inl (cB, 16384, .inl (zmk m1 f n)))])) := by
  refine zx_K.mk (Nat.le_of_ble_eq_true rfl) (fun p e s mm below meth c9 C hr hlk ht hnm => ?_)
  refine sg_LB_mask0 C hr hlk hl ht (fun h x0 => Or.inl ⟨h, x0, rfl, rfl⟩) (fun h => ?_)
  obtain ⟨m, hm9, hm⟩ := zm_ok h
  subst hm9
  have hp8 := zp_pow8 hm.2
  have hp1 : 1 ≤ 2 ^ m := Nat.one_le_two_pow
  have loop : ∀ (d i : Nat), i + d = n → zx_At p l e (zr 9 1 6) s mm (([.ref ax, .int (nI m)] : List Value)).toArray below meth c9 (zx_Q below s D zcl [(ax, .inr (4, [.ref t, .int (nI n), .ref rr, .ref sp, .int (nI r), .ref ua, .ref pa])), (t, .inl (cB, 16384, .inl f))] 0 0 (zr 9 1 6) (fun o w => (((nI m) < 2 ∨ 8 < (nI m)) ∧ ∃ x0 : Nat, o = .threw x0 ∧ w = [(ax, .inr (4, [.ref t, .int (nI n), .ref rr, .ref sp, .int (nI r), .ref ua, .ref pa])), (t, .inl (cB, 16384, .inl f)), (x0, .inr (6, []))]) ∨ (∃ m1 : Nat, ((nI m) = nI m1 ∧ 2 ≤ m1 ∧ m1 ≤ 8) ∧ o = .returned none ∧ w = [(ax, .inr (4, [.ref t, .int (nI n), .ref rr, .ref sp, .int (nI r), .ref ua, .ref pa])), (t, .inl (cB, 16384, .inl (zmk m1 f n)))]))) D zcl (va_A [(ax, .inr (4, [.ref t, .int (nI n), .ref rr, .ref sp, .int (nI r), .ref ua, .ref pa])), (t, .inl (cB, 16384, .inl f))] s.heap.size) 4 [(0, .ref ax), (1, .int (nI m)), (2, .int (nI (2 ^ m - 1))), (3, .int (nI i))] [(ax, .inr (4, [.ref t, .int (nI n), .ref rr, .ref sp, .int (nI r), .ref ua, .ref pa])), (t, .inl (cB, 16384, .inl (zmk m f i)))] 0 0 12 [] := by
    intro d
    induction d with
    | zero =>
      intro i hi
      have key : nI n ≤ nI i := by rw [show i = n by omega]; exact Int32.le_refl _
      exact sg_LB_mask12 C hr hlk (fun _ => Or.inr ⟨m, ⟨rfl, hm⟩, rfl, by rw [show i = n by omega]⟩) (fun z => absurd key z) (fun z => absurd key z) (fun z => absurd key z) (fun z => absurd key z)
    | succ d ih =>
      intro i hi
      have nk : ¬ nI n ≤ nI i := fun z => absurd ((nI_leI (by omega) (by omega)).mp z) (by omega)
      refine sg_LB_mask12 C hr hlk (fun z => absurd z nk) (fun _ => ⟨rfl, by omega⟩) (fun _ => ⟨rfl, by omega⟩) (fun _ => nI_1 i) (fun _ => ?_)
      rw [zmk_s]
      exact ih (i + 1) (by omega)
  refine sg_LB_mask4 C (zp_shl1 m (by omega)) (zsub1 hp1) ?_
  have h0 := loop n 0 (by omega)
  rw [zmk_0] at h0
  exact h0
theorem zl_step (x : Int64) {v : Nat} (hv : v < 256) : (x <<< ((8 : Int32).toInt64 &&& 63)) ||| (nI v).toInt64 = x * 256 + (nI v).toInt64 := by
  have e1 : ((8 : Int32).toInt64 &&& 63) = 8 := by decide
  rw [e1]
  have e2 : (nI v).toInt64.toBitVec = BitVec.ofNat 64 v := by
    show (nI v).toBitVec.signExtend 64 = BitVec.ofNat 64 v
    have hb : (nI v).toBitVec = BitVec.ofNat 32 v := rfl
    rw [hb, BitVec.signExtend_eq_setWidth_of_msb_false]
    · apply BitVec.eq_of_toNat_eq
      simp only [BitVec.toNat_setWidth, BitVec.toNat_ofNat]
      omega
    · rw [BitVec.msb_eq_decide, decide_eq_false_iff_not]
      simp only [BitVec.toNat_ofNat]
      omega
  apply Int64.toBitVec_inj.mp
  show (x.toBitVec <<< ((8 : Int64).toBitVec.smod 64)) ||| (nI v).toInt64.toBitVec = x.toBitVec * (256 : BitVec 64) + (nI v).toInt64.toBitVec
  rw [e2]
  have e3 : (8 : Int64).toBitVec.smod 64 = 8#64 := by decide
  rw [e3]
  have e4 : x.toBitVec * (256 : BitVec 64) = x.toBitVec <<< 8#64 := by
    apply BitVec.eq_of_toNat_eq
    simp only [BitVec.toNat_mul, BitVec.shiftLeft_eq', BitVec.toNat_shiftLeft, BitVec.toNat_ofNat]
    rw [Nat.shiftLeft_eq]
    rfl
  rw [e4]
  symm
  apply BitVec.add_eq_or_of_and_eq_zero
  apply BitVec.eq_of_getLsbD_eq
  intro i hi
  rw [BitVec.getLsbD_and, BitVec.shiftLeft_eq', BitVec.getLsbD_shiftLeft, BitVec.getLsbD_ofNat, BitVec.getLsbD_zero]
  by_cases h8 : i < 8
  · have : decide (i < (8#64).toNat) = true := decide_eq_true (by show i < 8; exact h8)
    rw [this]; simp
  · have : v.testBit i = false := Nat.testBit_lt_two_pow (Nat.lt_of_lt_of_le hv (Nat.pow_le_pow_right (n := 2) (i := 8) (by decide) (by omega)))
    rw [this]; simp
/-- the first k of the digits g, as a long -/
def zwd (g : Nat → Nat) : Nat → Int64
  | 0 => 0
  | k + 1 => zwd g k * 256 + (nI (g k)).toInt64
/-- the digits of word i -/
def zwg (f : Nat → Int32) (r i : Nat) : Nat → Nat := fun k => if i + k < r then zu (f (i + k)) else 0
theorem zwg_lt (f : Nat → Int32) (r i k : Nat) : zwg f r i k < 256 := by
  unfold zwg
  by_cases h : i + k < r
  · rw [if_pos h]; exact zu_lt _
  · rw [if_neg h]; decide
theorem nI_addI (a b : Nat) : nI a + nI b = nI (a + b) := by
  apply Int32.toBitVec_inj.mp
  apply BitVec.eq_of_toNat_eq
  simp [nI]
set_option maxRecDepth 100000 in
set_option maxHeartbeats 4000000 in
theorem sg_LB_word0 {p : Program} {l : Launch} {e : Env} {s : State} {mi : MethodId} {args : Array Value} {below : List Frame} {meth : Method} {co : Code} {D : va_G} {cB cI cL : ClassId} {w0 : va_W} {kr nr : Nat} {post : Outcome → va_W → Prop} (C : zx_C p s mi args co b_LB_word 6 R_LB zB D zcl (zt cB cI cL) (va_A w0 s.heap.size)) {ax t rr sp ua pa n r : Nat} {i9 : Int32} {f : Nat → Int32} (hr9 : meth.sig.returnType = some .long) (hlk9 : meth.locks = false) (hl9 : l.stackTraces = false) (ht9 : co.exceptionTable.toList.map (fun h => (h.startPc, h.endPc, h.handlerPc, h.catchType)) = []) (t12 : (i9 < 0) → ∀ x9 : Nat, post (.threw x9) [(ax, .inr (4, [.ref t, .int (nI n), .ref rr, .ref sp, .int (nI r), .ref ua, .ref pa])), (rr, .inl (cB, 16384, .inl f)), (x9, .inr (8, []))]) (k27 : (¬ i9 < 0) → (i9 < (nI r)) → zx_At p l e (zr 8 1 6) s mi args below meth co (zx_Q below s D zcl w0 kr nr (zr 8 1 6) post) D zcl (va_A w0 s.heap.size) 6 [(0, .ref ax), (1, .int i9), (2, .long (0 : Int64)), (4, .int (0 : Int32))] [(ax, .inr (4, [.ref t, .int (nI n), .ref rr, .ref sp, .int (nI r), .ref ua, .ref pa])), (rr, .inl (cB, 16384, .inl f))] 0 0 27 []) (t12_2 : (¬ i9 < 0) → (¬ i9 < (nI r)) → ∀ x9 : Nat, post (.threw x9) [(ax, .inr (4, [.ref t, .int (nI n), .ref rr, .ref sp, .int (nI r), .ref ua, .ref pa])), (rr, .inl (cB, 16384, .inl f)), (x9, .inr (8, []))]) : zx_At p l e (zr 8 1 6) s mi args below meth co (zx_Q below s D zcl w0 kr nr (zr 8 1 6) post) D zcl (va_A w0 s.heap.size) 6 [(0, .ref ax), (1, .int i9)] [(ax, .inr (4, [.ref t, .int (nI n), .ref rr, .ref sp, .int (nI r), .ref ua, .ref pa])), (rr, .inl (cB, 16384, .inl f))] 0 0 0 [] := by
  refine zx_iload_n (pc := 0) C d_LB_word_0 rfl 1 rfl ?_
  refine zx_if_lt (pc := 1) C 12 d_LB_word_1 (by decide) (fun c1 => ?_) (fun c1 => ?_)
  · exact zx_throwS (pc := 12) (names := zex) (ci := 8) C hl9 (by decide +kernel) zex_fit zw_166 zw_10 zw_686 zh_LB_44 rfl hlk9 (zx_noTab ht9 _) d_LB_word_12 d_LB_word_15 d_LB_word_16 d_LB_word_18 d_LB_word_21 (Nat.le_of_ble_eq_true rfl) (Nat.le_of_ble_eq_true rfl) (Nat.le_of_ble_eq_true rfl) (Nat.le_of_ble_eq_true rfl) (t12 c1)
  · refine zx_iload_n (pc := 4) C d_LB_word_4 rfl 1 rfl ?_
    refine zx_aload_n (pc := 5) C d_LB_word_5 rfl 0 rfl ?_
    refine zx_get (pc := 6) (ci := 4) (Cn := R_LB) (T := T_LB) (N := 7) (v := .int (nI r)) C zu_LB 0 rfl rfl 4 (by decide) zw_133 rfl rfl d_LB_word_6 ?_
    refine zx_icmp_lt (pc := 9) C 22 d_LB_word_9 (by decide) (fun c9 => ?_) (fun c9 => ?_)
    · refine zx_lconst (pc := 22) C d_LB_word_22 (v := (0 : Int64)) (by decide) ?_
      refine zx_lstore_n (pc := 23) C d_LB_word_23 rfl (by decide) (lv' := [(2, .long (0 : Int64)), (0, .ref ax), (1, .int i9)]) rfl ?_
      refine zx_iconst (pc := 24) C d_LB_word_24 (v := (0 : Int32)) (by decide) ?_
      refine zx_istore (pc := 25) C d_LB_word_25 (by decide) (lv' := [(4, .int (0 : Int32)), (2, .long (0 : Int64)), (0, .ref ax), (1, .int i9)]) rfl ?_
      refine zx_lv (lv' := [(0, .ref ax), (1, .int i9), (2, .long (0 : Int64)), (4, .int (0 : Int32))]) [2, 3, 1, 0] rfl ?_
      exact k27 c1 c9
    · exact zx_throwS (pc := 12) (names := zex) (ci := 8) C hl9 (by decide +kernel) zex_fit zw_166 zw_10 zw_686 zh_LB_44 rfl hlk9 (zx_noTab ht9 _) d_LB_word_12 d_LB_word_15 d_LB_word_16 d_LB_word_18 d_LB_word_21 (Nat.le_of_ble_eq_true rfl) (Nat.le_of_ble_eq_true rfl) (Nat.le_of_ble_eq_true rfl) (Nat.le_of_ble_eq_true rfl) (t12_2 c1 c9)

set_option maxRecDepth 100000 in
set_option maxHeartbeats 4000000 in
theorem sg_LB_word27 {p : Program} {l : Launch} {e : Env} {R : Room} {s : State} {mi : MethodId} {args : Array Value} {below : List Frame} {meth : Method} {co : Code} {D : va_G} {cB cI cL : ClassId} {w0 : va_W} {kr nr : Nat} {post : Outcome → va_W → Prop} (C : zx_C p s mi args co b_LB_word 6 R_LB zB D zcl (zt cB cI cL) (va_A w0 s.heap.size)) {ax t rr sp ua pa n r i k : Nat} {x9 : Int64} {f : Nat → Int32} (hr9 : meth.sig.returnType = some .long) (hlk9 : meth.locks = false) (r80 : ((8 : Int32) ≤ (nI k)) → post (.returned (some (.long x9))) [(ax, .inr (4, [.ref t, .int (nI n), .ref rr, .ref sp, .int (nI r), .ref ua, .ref pa])), (rr, .inl (cB, 16384, .inl f))]) (e37 : (¬ (8 : Int32) ≤ (nI k)) → ((nI i) + (nI k)) = (nI (i + k))) (k62 : (¬ (8 : Int32) ≤ (nI k)) → ((nI r) ≤ (nI (i + k))) → zx_At p l e R s mi args below meth co (zx_Q below s D zcl w0 kr nr R post) D zcl (va_A w0 s.heap.size) 6 [(0, .ref ax), (1, .int (nI i)), (2, .long x9), (4, .int (nI k))] [(ax, .inr (4, [.ref t, .int (nI n), .ref rr, .ref sp, .int (nI r), .ref ua, .ref pa])), (rr, .inl (cB, 16384, .inl f))] 0 0 62 [.int (0 : Int32)]) (e52 : (¬ (8 : Int32) ≤ (nI k)) → (¬ (nI r) ≤ (nI (i + k))) → ((nI i) + (nI k)) = (nI (i + k))) (b53 : (¬ (8 : Int32) ≤ (nI k)) → (¬ (nI r) ≤ (nI (i + k))) → (nI (i + k)) = nI (i + k) ∧ (i + k) < 16384) (e57 : (¬ (8 : Int32) ≤ (nI k)) → (¬ (nI r) ≤ (nI (i + k))) → ((f (i + k)) &&& (255 : Int32)) = (nI (zu (f (i + k))))) (k62_2 : (¬ (8 : Int32) ≤ (nI k)) → (¬ (nI r) ≤ (nI (i + k))) → zx_At p l e R s mi args below meth co (zx_Q below s D zcl w0 kr nr R post) D zcl (va_A w0 s.heap.size) 6 [(0, .ref ax), (1, .int (nI i)), (2, .long x9), (4, .int (nI k))] [(ax, .inr (4, [.ref t, .int (nI n), .ref rr, .ref sp, .int (nI r), .ref ua, .ref pa])), (rr, .inl (cB, 16384, .inl f))] 0 0 62 [.int (nI (zu (f (i + k))))]) : zx_At p l e R s mi args below meth co (zx_Q below s D zcl w0 kr nr R post) D zcl (va_A w0 s.heap.size) 6 [(0, .ref ax), (1, .int (nI i)), (2, .long x9), (4, .int (nI k))] [(ax, .inr (4, [.ref t, .int (nI n), .ref rr, .ref sp, .int (nI r), .ref ua, .ref pa])), (rr, .inl (cB, 16384, .inl f))] 0 0 27 [] := by
  refine zx_iload (pc := 27) C d_LB_word_27 3 rfl ?_
  refine zx_bipush (pc := 29) C d_LB_word_29 (v := (8 : Int32)) (by decide) ?_
  refine zx_icmp_ge (pc := 31) C 79 d_LB_word_31 (by decide) (fun c31 => ?_) (fun c31 => ?_)
  · refine zx_lload_n (pc := 79) C d_LB_word_79 rfl 2 rfl ?_
    exact zx_lret (pc := 80) C hr9 hlk9 (Nat.zero_le _) (Nat.zero_le _) d_LB_word_80 (r80 c31)
  · refine zx_iload_n (pc := 34) C d_LB_word_34 rfl 1 rfl ?_
    refine zx_iload (pc := 35) C d_LB_word_35 3 rfl ?_
    refine zx_iadd (pc := 37) C d_LB_word_37 ?_
    refine zx_seti (nI (i + k)) (e37 c31) ?_
    refine zx_aload_n (pc := 38) C d_LB_word_38 rfl 0 rfl ?_
    refine zx_get (pc := 39) (ci := 4) (Cn := R_LB) (T := T_LB) (N := 7) (v := .int (nI r)) C zu_LB 0 rfl rfl 4 (by decide) zw_133 rfl rfl d_LB_word_39 ?_
    refine zx_icmp_ge (pc := 42) C 61 d_LB_word_42 (by decide) (fun c42 => ?_) (fun c42 => ?_)
    · refine zx_iconst (pc := 61) C d_LB_word_61 (v := (0 : Int32)) (by decide) ?_
      exact k62 c31 c42
    · refine zx_aload_n (pc := 45) C d_LB_word_45 rfl 0 rfl ?_
      refine zx_get (pc := 46) (ci := 4) (Cn := R_LB) (T := T_LB) (N := 7) (v := .ref rr) C zu_LB 0 rfl rfl 2 (by decide) zw_131 rfl rfl d_LB_word_46 ?_
      refine zx_iload_n (pc := 49) C d_LB_word_49 rfl 1 rfl ?_
      refine zx_iload (pc := 50) C d_LB_word_50 3 rfl ?_
      refine zx_iadd (pc := 52) C d_LB_word_52 ?_
      refine zx_seti (nI (i + k)) (e52 c31 c42) ?_
      refine zx_bald (pc := 53) C 1 0 rfl rfl (i + k) (b53 c31 c42).1 (b53 c31 c42).2 (by decide) d_LB_word_53 ?_
      refine zx_sipush (pc := 54) C d_LB_word_54 (v := (255 : Int32)) (by decide) ?_
      refine zx_iand (pc := 57) C d_LB_word_57 ?_
      refine zx_seti (nI (zu (f (i + k)))) (e57 c31 c42) ?_
      refine zx_goto (pc := 58) C 62 d_LB_word_58 (by decide) ?_
      exact k62_2 c31 c42

set_option maxRecDepth 100000 in
set_option maxHeartbeats 4000000 in
theorem sg_LB_word62 {p : Program} {l : Launch} {e : Env} {R : Room} {s : State} {mi : MethodId} {args : Array Value} {below : List Frame} {meth : Method} {co : Code} {D : va_G} {cB cI cL : ClassId} {Q : State → Prop} {A : Nat → Prop} (C : zx_C p s mi args co b_LB_word 6 R_LB zB D zcl (zt cB cI cL) A) {ax t rr sp ua pa n r i k v : Nat} {x9 y9 : Int64} {f : Nat → Int32} (e71 : ((x9 <<< ((8 : Int32).toInt64 &&& 63)) ||| ((nI v).toInt64)) = y9) (e73 : (nI k) + (1 : Int32) = (nI (k + 1))) (k27 : zx_At p l e R s mi args below meth co Q D zcl A 6 [(0, .ref ax), (1, .int (nI i)), (2, .long y9), (4, .int (nI (k + 1)))] [(ax, .inr (4, [.ref t, .int (nI n), .ref rr, .ref sp, .int (nI r), .ref ua, .ref pa])), (rr, .inl (cB, 16384, .inl f))] 0 0 27 []) : zx_At p l e R s mi args below meth co Q D zcl A 6 [(0, .ref ax), (1, .int (nI i)), (2, .long x9), (4, .int (nI k))] [(ax, .inr (4, [.ref t, .int (nI n), .ref rr, .ref sp, .int (nI r), .ref ua, .ref pa])), (rr, .inl (cB, 16384, .inl f))] 0 0 62 [.int (nI v)] := by
  refine zx_istore (pc := 62) C d_LB_word_62 (by decide) (lv' := [(5, .int (nI v)), (0, .ref ax), (1, .int (nI i)), (2, .long x9), (4, .int (nI k))]) rfl ?_
  refine zx_lload_n (pc := 64) C d_LB_word_64 rfl 3 rfl ?_
  refine zx_bipush (pc := 65) C d_LB_word_65 (v := (8 : Int32)) (by decide) ?_
  refine zx_lshl (pc := 67) C d_LB_word_67 rfl ?_
  refine zx_iload (pc := 68) C d_LB_word_68 0 rfl ?_
  refine zx_i2l (pc := 70) C d_LB_word_70 rfl ?_
  refine zx_lor (pc := 71) C d_LB_word_71 ?_
  refine zx_setl y9 (e71) ?_
  refine zx_lstore_n (pc := 72) C d_LB_word_72 rfl (by decide) (lv' := [(2, .long y9), (5, .int (nI v)), (0, .ref ax), (1, .int (nI i)), (4, .int (nI k))]) rfl ?_
  refine zx_iinc (pc := 73) C d_LB_word_73 4 rfl (v := (nI (k + 1))) (e73) (by decide) (lv' := [(4, .int (nI (k + 1))), (2, .long y9), (5, .int (nI v)), (0, .ref ax), (1, .int (nI i))]) rfl ?_
  refine zx_goto (pc := 76) C 27 d_LB_word_76 (by decide) ?_
  refine zx_lv (lv' := [(0, .ref ax), (1, .int (nI i)), (2, .long y9), (4, .int (nI (k + 1)))]) [3, 4, 1, 0] rfl ?_
  exact k27

theorem k_LB_word (l : Launch) (D : va_G) (cB cI cL : ClassId) (hl : l.stackTraces = false) (ax t rr sp ua pa n r : Nat) (i9 : Int32) (f : Nat → Int32) (hr8 : r ≤ 16384) : zx_K l zB D zcl (zt cB cI cL) y_LB_word b_LB_word 6 (some .long) [] 0 0 (zr 8 1 6) [.ref ax, .int i9] [(ax, .inr (4, [.ref t, .int (nI n), .ref rr, .ref sp, .int (nI r), .ref ua, .ref pa])), (rr, .inl (cB, 16384, .inl f))] (fun o w => ((i9 < 0 ∨ nI r ≤ i9) ∧ ∃ x0 : Nat, o = .threw x0 ∧ w = [(ax, .inr (4, [.ref t, .int (nI n), .ref rr, .ref sp, .int (nI r), .ref ua, .ref pa])), (rr, .inl (cB, 16384, .inl f)), (x0, .inr (8, []))]) ∨ (∃ i1 : Nat, (i9 = nI i1 ∧ i1 < r) ∧ o = .returned (some (.long (zwd (zwg f r i1) 8))) ∧ w = [(ax, .inr (4, [.ref t, .int (nI n), .ref rr, .ref sp, .int (nI r), .ref ua, .ref pa])), (rr, .inl (cB, 16384, .inl f))])) := by
  refine zx_K.mk (Nat.le_of_ble_eq_true rfl) (fun p e s mm below meth c9 C hr hlk ht hnm => ?_)
  refine sg_LB_word0 C hr hlk hl ht (fun h x0 => Or.inl ⟨Or.inl h, x0, rfl, rfl⟩) (fun h1 h2 => ?_) (fun h1 h2 x0 => Or.inl ⟨Or.inr (zi_nlt.mp h2), x0, rfl, rfl⟩)
  obtain ⟨i, hi9, hi⟩ := zi_nn h1
  subst hi9
  have hir : i < r := (nI_ltI hi (by omega)).mp h2
  have loop : ∀ (d k : Nat), k + d = 8 → zx_At p l e (zr 8 1 6) s mm (([.ref ax, .int (nI i)] : List Value)).toArray below meth c9 (zx_Q below s D zcl [(ax, .inr (4, [.ref t, .int (nI n), .ref rr, .ref sp, .int (nI r), .ref ua, .ref pa])), (rr, .inl (cB, 16384, .inl f))] 0 0 (zr 8 1 6) (fun o w => (((nI i) < 0 ∨ nI r ≤ (nI i)) ∧ ∃ x0 : Nat, o = .threw x0 ∧ w = [(ax, .inr (4, [.ref t, .int (nI n), .ref rr, .ref sp, .int (nI r), .ref ua, .ref pa])), (rr, .inl (cB, 16384, .inl f)), (x0, .inr (8, []))]) ∨ (∃ i1 : Nat, ((nI i) = nI i1 ∧ i1 < r) ∧ o = .returned (some (.long (zwd (zwg f r i1) 8))) ∧ w = [(ax, .inr (4, [.ref t, .int (nI n), .ref rr, .ref sp, .int (nI r), .ref ua, .ref pa])), (rr, .inl (cB, 16384, .inl f))]))) D zcl (va_A [(ax, .inr (4, [.ref t, .int (nI n), .ref rr, .ref sp, .int (nI r), .ref ua, .ref pa])), (rr, .inl (cB, 16384, .inl f))] s.heap.size) 6 [(0, .ref ax), (1, .int (nI i)), (2, .long (zwd (zwg f r i) k)), (4, .int (nI k))] [(ax, .inr (4, [.ref t, .int (nI n), .ref rr, .ref sp, .int (nI r), .ref ua, .ref pa])), (rr, .inl (cB, 16384, .inl f))] 0 0 27 [] := by
    intro d
    induction d with
    | zero =>
      intro k hk
      have hk8 : k = 8 := by omega
      subst hk8
      have key : (8 : Int32) ≤ nI 8 := by decide
      exact sg_LB_word27 C hr hlk (fun _ => Or.inr ⟨i, ⟨rfl, hir⟩, rfl, rfl⟩) (fun z => absurd key z) (fun z => absurd key z) (fun z => absurd key z) (fun z => absurd key z) (fun z => absurd key z) (fun z => absurd key z)
    | succ d ih =>
      intro k hk
      have nk : ¬ (8 : Int32) ≤ nI k := fun z => absurd ((zp_ge (k := 8) rfl (by omega) (by decide)).mp z) (by omega)
      have kk : nI r ≤ nI (i + k) ↔ r ≤ i + k := nI_leI (by omega) (by omega)
      have nx : ∀ v, v = zwg f r i k → zx_At p l e (zr 8 1 6) s mm (([.ref ax, .int (nI i)] : List Value)).toArray below meth c9 (zx_Q below s D zcl [(ax, .inr (4, [.ref t, .int (nI n), .ref rr, .ref sp, .int (nI r), .ref ua, .ref pa])), (rr, .inl (cB, 16384, .inl f))] 0 0 (zr 8 1 6) (fun o w => (((nI i) < 0 ∨ nI r ≤ (nI i)) ∧ ∃ x0 : Nat, o = .threw x0 ∧ w = [(ax, .inr (4, [.ref t, .int (nI n), .ref rr, .ref sp, .int (nI r), .ref ua, .ref pa])), (rr, .inl (cB, 16384, .inl f)), (x0, .inr (8, []))]) ∨ (∃ i1 : Nat, ((nI i) = nI i1 ∧ i1 < r) ∧ o = .returned (some (.long (zwd (zwg f r i1) 8))) ∧ w = [(ax, .inr (4, [.ref t, .int (nI n), .ref rr, .ref sp, .int (nI r), .ref ua, .ref pa])), (rr, .inl (cB, 16384, .inl f))]))) D zcl (va_A [(ax, .inr (4, [.ref t, .int (nI n), .ref rr, .ref sp, .int (nI r), .ref ua, .ref pa])), (rr, .inl (cB, 16384, .inl f))] s.heap.size) 6 [(0, .ref ax), (1, .int (nI i)), (2, .long (zwd (zwg f r i) k)), (4, .int (nI k))] [(ax, .inr (4, [.ref t, .int (nI n), .ref rr, .ref sp, .int (nI r), .ref ua, .ref pa])), (rr, .inl (cB, 16384, .inl f))] 0 0 62 [.int (nI v)] := fun v hv => by
        subst hv
        exact sg_LB_word62 (y9 := zwd (zwg f r i) (k + 1)) C (zl_step _ (zwg_lt f r i k)) (nI_1 k) (ih (k + 1) (by omega))
      refine sg_LB_word27 C hr hlk (fun z => absurd z nk) (fun _ => nI_addI i k) (fun _ z => ?_) (fun _ z => nI_addI i k) (fun _ z => ⟨rfl, by have := mt kk.mpr z; omega⟩) (fun _ z => zu_and _) (fun _ z => ?_)
      · exact nx 0 (by rw [zwg, if_neg (by have := kk.mp z; omega)])
      · exact nx (zu (f (i + k))) (by rw [zwg, if_pos (by have := mt kk.mpr z; omega)])
  exact loop 8 0 rfl
end
section
theorem zw_157 : (Cond.native arraycopyName) ∈ zB := zB_t (i := 157) (by decide +kernel) (by decide +kernel)
/-- the first n of f's, g's behind -/
def zag (g f : Nat → Int32) (n : Nat) : Nat → Int32 := fun k => if k < n then f k else g k
theorem zag_by {g f : Nat → Int32} {n : Nat} (h1 : ∀ j, vp_nar .byte (g j) = g j) (h2 : ∀ j, vp_nar .byte (f j) = f j) : ∀ j, vp_nar .byte (zag g f n j) = zag g f n j := fun j => by
  unfold zag
  by_cases q : j < n
  · rw [if_pos q]; exact h2 j
  · rw [if_neg q]; exact h1 j
section ZXC
variable {p : Program} {l : Launch} {e : Env} {R : Room} {s : State} {m : MethodId} {args : Array Value} {below : List Frame} {meth : Method} {c : Code} {Q : State → Prop}
variable {cc : ByteArray} {nL : Nat} {own : String} {B : List Cond} {D : va_G} {cl : List vw_C} {tys : List (ClassId × FieldType)} {A : Nat → Prop}
variable {lv lv' : List (Nat × Value)} {ws ws' : va_W} {kc ks pc : Nat} {st : List Value}
theorem zx_copy (C : zx_C p s m args c cc nL own B D cl tys A) {ix : Nat} (hlink : Cond.methodLink own ix arraycopyName ∈ B) (hnat : Cond.native arraycopyName ∈ B) (hstat : Cond.static arraycopyName ∈ B) (hini : Cond.initialized "java/lang/System" ∈ B) (q0 q1 t0 : Nat) {a0 a n0 n1 n : Nat} {cA : ClassId} {f g : Nat → Int32} (ha0 : ws[q0]? = some (a0, .inl (cA, n0, .inl f))) (ha1 : ws[q1]? = some (a, .inl (cA, n1, .inl g))) (ht : tys[t0]? = some (cA, .byte)) (hn0 : n ≤ n0) (hn1 : n ≤ n1) (hn31 : n < 2 ^ 31) (hby : ∀ j, vp_nar .byte (f j) = f j) (hw : ws.set q1 (a, .inl (cA, n1, .inl (zag g f n))) = ws') (hf : 1 ≤ R.frames) (hlo : (st.map fun v => v.category).sum + 18 ≤ R.locals) (hd : decode cc pc = .ok (.invokestatic ix, 3)) (h : zx_At p l e R s m args below meth c Q D cl A nL lv ws' kc ks (pc + 3) st) : zx_At p l e R s m args below meth c Q D cl A nL lv ws kc ks pc (.int (nI n) :: .int 0 :: .ref a :: .int 0 :: .ref a0 :: st) := fun H locs ls hl hP hD hS => by
  have e0 : (0 : Int32).toNatClampNeg = 0 := rfl
  have e1 : (nI n).toNatClampNeg = n := nI_clamp hn31
  have ec : va_cpy f g (0 : Int32).toNatClampNeg (0 : Int32).toNatClampNeg (nI n).toNatClampNeg = zag g f n := by
    rw [e0, e1]
    funext k
    unfold va_cpy zag
    by_cases q : k < n
    · rw [if_pos q, if_pos ⟨Nat.zero_le _, by omega⟩]; congr 1; omega
    · rw [if_neg q, if_neg (fun z => q (by omega))]
  refine va_copyi C.hx C.hb (by rw [C.hml]; exact hl.1.symm) C.ho (C.w hlink) (C.w hnat) (C.w hstat) (C.w hini) C.k hP hD hS q0 q1 t0 t0 ha0 ha1 ht ht rfl (by decide) (by decide) ?_ (by rw [e0, e1]; omega) (by rw [e0, e1]; omega) (fun i _ => ?_) hf (by show _ + (7 + 11) ≤ _; exact hlo) hd (fun H1 l1 hP1 hD1 hS1 => ?_)
  · exact Int32.not_lt.mpr (nI_pos' hn31)
  · rw [← hby, vp_nar_byte]; exact pk_fb _
  · rw [ec] at hP1 hD1
    exact h H1 l1 ls hl (hw ▸ hP1) (hw ▸ hD1) hS1
end ZXC
set_option maxRecDepth 100000 in
set_option maxHeartbeats 4000000 in
theorem sg_LB_again0 {p : Program} {l : Launch} {e : Env} {R : Room} {s : State} {mi : MethodId} {args : Array Value} {below : List Frame} {meth : Method} {co : Code} {D : va_G} {cB cI cL : ClassId} {Q : State → Prop} {A : Nat → Prop} (C : zx_C p s mi args co b_LB_again 1 R_LB zB D zcl (zt cB cI cL) A) {ax t rr sp ua pa n r : Nat} {f g : Nat → Int32} (k14 : zx_At p l e R s mi args below meth co Q D zcl A 1 [(0, .ref ax)] [(ax, .inr (4, [.ref t, .int (nI n), .ref rr, .ref sp, .int (nI r), .ref ua, .ref pa])), (t, .inl (cB, 16384, .inl f)), (rr, .inl (cB, 16384, .inl g))] 0 0 14 [.int (nI r), .int (0 : Int32), .ref t, .int (0 : Int32), .ref rr]) : zx_At p l e R s mi args below meth co Q D zcl A 1 [(0, .ref ax)] [(ax, .inr (4, [.ref t, .int (nI n), .ref rr, .ref sp, .int (nI r), .ref ua, .ref pa])), (t, .inl (cB, 16384, .inl f)), (rr, .inl (cB, 16384, .inl g))] 0 0 0 [] := by
  refine zx_aload_n (pc := 0) C d_LB_again_0 rfl 0 rfl ?_
  refine zx_get (pc := 1) (ci := 4) (Cn := R_LB) (T := T_LB) (N := 7) (v := .ref rr) C zu_LB 0 rfl rfl 2 (by decide) zw_131 rfl rfl d_LB_again_1 ?_
  refine zx_iconst (pc := 4) C d_LB_again_4 (v := (0 : Int32)) (by decide) ?_
  refine zx_aload_n (pc := 5) C d_LB_again_5 rfl 0 rfl ?_
  refine zx_get (pc := 6) (ci := 4) (Cn := R_LB) (T := T_LB) (N := 7) (v := .ref t) C zu_LB 0 rfl rfl 0 (by decide) zw_129 rfl rfl d_LB_again_6 ?_
  refine zx_iconst (pc := 9) C d_LB_again_9 (v := (0 : Int32)) (by decide) ?_
  refine zx_aload_n (pc := 10) C d_LB_again_10 rfl 0 rfl ?_
  refine zx_get (pc := 11) (ci := 4) (Cn := R_LB) (T := T_LB) (N := 7) (v := .int (nI r)) C zu_LB 0 rfl rfl 4 (by decide) zw_133 rfl rfl d_LB_again_11 ?_
  exact k14

set_option maxRecDepth 100000 in
set_option maxHeartbeats 4000000 in
theorem sg_LB_again17 {p : Program} {l : Launch} {e : Env} {R : Room} {s : State} {mi : MethodId} {args : Array Value} {below : List Frame} {meth : Method} {co : Code} {D : va_G} {cB cI cL : ClassId} {w0 : va_W} {kr nr : Nat} {post : Outcome → va_W → Prop} (C : zx_C p s mi args co b_LB_again 1 R_LB zB D zcl (zt cB cI cL) (va_A w0 s.heap.size)) {ax t rr sp ua pa n r : Nat} {f g : Nat → Int32} (hr9 : meth.sig.returnType = some .int) (hlk9 : meth.locks = false) (r29 : post (.returned (some (.int (nI r)))) [(ax, .inr (4, [.ref t, .int (nI r), .ref rr, .ref sp, .int (nI r), .ref ua, .ref pa])), (t, .inl (cB, 16384, .inl f)), (rr, .inl (cB, 16384, .inl g))]) : zx_At p l e R s mi args below meth co (zx_Q below s D zcl w0 kr nr R post) D zcl (va_A w0 s.heap.size) 1 [(0, .ref ax)] [(ax, .inr (4, [.ref t, .int (nI n), .ref rr, .ref sp, .int (nI r), .ref ua, .ref pa])), (t, .inl (cB, 16384, .inl f)), (rr, .inl (cB, 16384, .inl g))] 0 0 17 [] := by
  refine zx_aload_n (pc := 17) C d_LB_again_17 rfl 0 rfl ?_
  refine zx_aload_n (pc := 18) C d_LB_again_18 rfl 0 rfl ?_
  refine zx_get (pc := 19) (ci := 4) (Cn := R_LB) (T := T_LB) (N := 7) (v := .int (nI r)) C zu_LB 0 rfl rfl 4 (by decide) zw_133 rfl rfl d_LB_again_19 ?_
  refine zx_put (pc := 22) (ci := 4) (Cn := R_LB) (T := T_LB) (N := 7) (v := .int (nI r)) (ty := .int) (ws' := [(ax, .inr (4, [.ref t, .int (nI r), .ref rr, .ref sp, .int (nI r), .ref ua, .ref pa])), (t, .inl (cB, 16384, .inl f)), (rr, .inl (cB, 16384, .inl g))]) C zu_LB ty_LB tyk_LB nm_LB 0 rfl rfl 1 (by decide) zw_130 rfl rfl (by decide +kernel) rfl rfl (Nat.le_of_ble_eq_true rfl) rfl d_LB_again_22 ?_
  refine zx_aload_n (pc := 25) C d_LB_again_25 rfl 0 rfl ?_
  refine zx_get (pc := 26) (ci := 4) (Cn := R_LB) (T := T_LB) (N := 7) (v := .int (nI r)) C zu_LB 0 rfl rfl 1 (by decide) zw_130 rfl rfl d_LB_again_26 ?_
  exact zx_iret (pc := 29) C hr9 hlk9 (Nat.zero_le _) (Nat.zero_le _) d_LB_again_29 (r29)

theorem k_LB_again (l : Launch) (D : va_G) (cB cI cL : ClassId) (ax t rr sp ua pa n r : Nat) (f g : Nat → Int32) (hr8 : r ≤ 16384) (hby : ∀ j, vp_nar .byte (g j) = g j) : zx_K l zB D zcl (zt cB cI cL) y_LB_again b_LB_again 1 (some .int) [] 0 0 (zr 1 0 0) [.ref ax] [(ax, .inr (4, [.ref t, .int (nI n), .ref rr, .ref sp, .int (nI r), .ref ua, .ref pa])), (t, .inl (cB, 16384, .inl f)), (rr, .inl (cB, 16384, .inl g))] (fun o w => o = .returned (some (.int (nI r))) ∧ w = [(ax, .inr (4, [.ref t, .int (nI r), .ref rr, .ref sp, .int (nI r), .ref ua, .ref pa])), (t, .inl (cB, 16384, .inl (zag f g r))), (rr, .inl (cB, 16384, .inl g))]) := by
  refine zx_K.mk (Nat.le_of_ble_eq_true rfl) (fun p e s mm below meth c9 C hr hlk ht hnm => ?_)
  refine sg_LB_again0 C ?_
  refine zx_copy (pc := 14) C zw_155 zw_157 zw_156 zw_12 2 1 0 rfl rfl rfl hr8 hr8 (by omega) hby rfl (Nat.le_of_ble_eq_true rfl) (Nat.le_of_ble_eq_true rfl) d_LB_again_14 ?_
  exact sg_LB_again17 C hr hlk ⟨rfl, rfl⟩
set_option maxRecDepth 100000 in
set_option maxHeartbeats 4000000 in
theorem sg_LB_un0 {p : Program} {l : Launch} {e : Env} {s : State} {mi : MethodId} {args : Array Value} {below : List Frame} {meth : Method} {co : Code} {D : va_G} {cB cI cL : ClassId} {w0 : va_W} {kr nr : Nat} {post : Outcome → va_W → Prop} (C : zx_C p s mi args co b_LB_unpack 3 R_LB zB D zcl (zt cB cI cL) (va_A w0 s.heap.size)) {ax t rr sp ua pa na sa la i0 n r ls ll : Nat} {m9 made9 u1 u2 u3 u4 : Int32} {rs0 rl0 : Nat → Nat} {f g : Nat → Int32} (hr9 : meth.sig.returnType = some .int) (hlk9 : meth.locks = false) (hl9 : l.stackTraces = false) (ht9 : co.exceptionTable.toList.map (fun h => (h.startPc, h.endPc, h.handlerPc, h.catchType)) = []) (t1 : (m9 < 2 ∨ 8 < m9) → ∀ x9 : Nat, post (.threw x9) [(ax, .inr (4, [.ref t, .int (nI n), .ref rr, .ref sp, .int (nI r), .ref ua, .ref pa])), (t, .inl (cB, 16384, .inl f)), (ua, .inr (2, [.ref na, .ref sa, .ref la, .ref i0, .int made9, .int (nI ls), .int (nI ll)])), (na, .inr (0, [.int u1, .int u2, .int u3, .int u4])), (sa, .inl (cI, 4096, .inl (zf rs0))), (la, .inl (cI, 4096, .inl (zf rl0))), (sp, .inl (cB, 16384, .inl g)), (x9, .inr (6, []))]) (k4 : (¬ (m9 < 2 ∨ 8 < m9)) → zx_At p l e (zr 10 1 6) s mi args below meth co (zx_Q below s D zcl w0 kr nr (zr 10 1 6) post) D zcl (va_A w0 s.heap.size) 3 [(0, .ref ax), (1, .int m9)] [(ax, .inr (4, [.ref t, .int (nI n), .ref rr, .ref sp, .int (nI r), .ref ua, .ref pa])), (t, .inl (cB, 16384, .inl f)), (ua, .inr (2, [.ref na, .ref sa, .ref la, .ref i0, .int made9, .int (nI ls), .int (nI ll)])), (na, .inr (0, [.int u1, .int u2, .int u3, .int u4])), (sa, .inl (cI, 4096, .inl (zf rs0))), (la, .inl (cI, 4096, .inl (zf rl0))), (sp, .inl (cB, 16384, .inl g))] 0 0 4 []) : zx_At p l e (zr 10 1 6) s mi args below meth co (zx_Q below s D zcl w0 kr nr (zr 10 1 6) post) D zcl (va_A w0 s.heap.size) 3 [(0, .ref ax), (1, .int m9)] [(ax, .inr (4, [.ref t, .int (nI n), .ref rr, .ref sp, .int (nI r), .ref ua, .ref pa])), (t, .inl (cB, 16384, .inl f)), (ua, .inr (2, [.ref na, .ref sa, .ref la, .ref i0, .int made9, .int (nI ls), .int (nI ll)])), (na, .inr (0, [.int u1, .int u2, .int u3, .int u4])), (sa, .inl (cI, 4096, .inl (zf rs0))), (la, .inl (cI, 4096, .inl (zf rl0))), (sp, .inl (cB, 16384, .inl g))] 0 0 0 [] := by
  refine zx_iload_n (pc := 0) C d_LB_unpack_0 rfl 1 rfl ?_
  refine zx_callS (pc := 1) (ix := 62) (wr := [(ax, .inr (4, [.ref t, .int (nI n), .ref rr, .ref sp, .int (nI r), .ref ua, .ref pa])), (t, .inl (cB, 16384, .inl f)), (ua, .inr (2, [.ref na, .ref sa, .ref la, .ref i0, .int made9, .int (nI ls), .int (nI ll)])), (na, .inr (0, [.int u1, .int u2, .int u3, .int u4])), (sa, .inl (cI, 4096, .inl (zf rs0))), (la, .inl (cI, 4096, .inl (zf rl0))), (sp, .inl (cB, 16384, .inl g))]) (st := []) C (zx_cw.of (C.w zw_272)) (by decide +kernel) ⟨by decide +kernel, by decide +kernel⟩ zw_271 zw_1 zw_270 rfl (k_LB_checkM l D cB cI cL hl9 m9) rfl [] [0, 1, 2, 3, 4, 5, 6] rfl rfl (by decide) (by decide) (by decide) (Nat.le_of_ble_eq_true rfl) (Nat.le_of_ble_eq_true rfl) (Nat.le_of_ble_eq_true rfl) (Nat.le_of_ble_eq_true rfl) d_LB_unpack_1 (fun o w1 hp => ?_)
  rcases hp with ⟨hc1, x9, rfl, rfl⟩ | ⟨hc1, rfl, rfl⟩
  · exact zx_rt (k2 := 1) (n2 := 6) rfl rfl (zx_leave hlk9 (zx_noTab ht9 _) (Nat.le_of_ble_eq_true rfl) (Nat.le_of_ble_eq_true rfl) (t1 hc1 x9))
  · refine zx_rv (k2 := 0) (n2 := 0) rfl rfl ?_
    refine zx_ws (ws' := [(ax, .inr (4, [.ref t, .int (nI n), .ref rr, .ref sp, .int (nI r), .ref ua, .ref pa])), (t, .inl (cB, 16384, .inl f)), (ua, .inr (2, [.ref na, .ref sa, .ref la, .ref i0, .int made9, .int (nI ls), .int (nI ll)])), (na, .inr (0, [.int u1, .int u2, .int u3, .int u4])), (sa, .inl (cI, 4096, .inl (zf rs0))), (la, .inl (cI, 4096, .inl (zf rl0))), (sp, .inl (cB, 16384, .inl g))]) [0, 1, 2, 3, 4, 5, 6] (by decide) rfl ?_
    exact k4 hc1

set_option maxRecDepth 100000 in
set_option maxHeartbeats 4000000 in
theorem sg_LB_un4 {p : Program} {l : Launch} {e : Env} {s : State} {mi : MethodId} {args : Array Value} {below : List Frame} {meth : Method} {co : Code} {D : va_G} {cB cI cL : ClassId} {w0 : va_W} {kr nr : Nat} {post : Outcome → va_W → Prop} (C : zx_C p s mi args co b_LB_unpack 3 R_LB zB D zcl (zt cB cI cL) (va_A w0 s.heap.size)) {ax t rr sp ua pa na sa la i0 n r m ls ll : Nat} {made9 u1 u2 u3 u4 : Int32} {rs0 rl0 : Nat → Nat} {f g : Nat → Int32} (hm : 2 ≤ m ∧ m ≤ 8) (hn : n ≤ 16384) (hby0 : ∀ j, vp_nar .byte (g j) = g j) (hr9 : meth.sig.returnType = some .int) (hlk9 : meth.locks = false) (hl9 : l.stackTraces = false) (ht9 : co.exceptionTable.toList.map (fun h => (h.startPc, h.endPc, h.handlerPc, h.catchType)) = []) (r39 : ∀ m1 : Int32, ∀ b1 : Int32, ∀ x1 : Int32, ∀ f1 : Int32, ∀ k1 : Int32, ∀ k2 : Int32, ∀ k3 : Int32, ∀ rs : Nat → Nat, ∀ rl : Nat → Nat, ∀ g1 : Nat → Int32, ((∀ j, vp_nar .byte (g1 j) = g1 j) ∧ (zd_run m (zcode f n) (8 * n) (8 * n) 0 (m + 1) (2 ^ m + 2) true ls ll rs0 rl0 g 0).1 = 0 ∧ g1 = (zd_run m (zcode f n) (8 * n) (8 * n) 0 (m + 1) (2 ^ m + 2) true ls ll rs0 rl0 g 0).2.2) → post (.returned (some (.int (nI (zd_run m (zcode f n) (8 * n) (8 * n) 0 (m + 1) (2 ^ m + 2) true ls ll rs0 rl0 g 0).2.1)))) [(ax, .inr (4, [.ref t, .int (0 : Int32), .ref sp, .ref rr, .int (nI (zd_run m (zcode f n) (8 * n) (8 * n) 0 (m + 1) (2 ^ m + 2) true ls ll rs0 rl0 g 0).2.1), .ref ua, .ref pa])), (t, .inl (cB, 16384, .inl f)), (ua, .inr (2, [.ref na, .ref sa, .ref la, .ref sp, .int k1, .int k2, .int k3])), (na, .inr (0, [.int m1, .int b1, .int x1, .int f1])), (sa, .inl (cI, 4096, .inl (zf rs))), (la, .inl (cI, 4096, .inl (zf rl))), (sp, .inl (cB, 16384, .inl g1))]) (t29 : ∀ m1 : Int32, ∀ b1 : Int32, ∀ x1 : Int32, ∀ f1 : Int32, ∀ k1 : Int32, ∀ k2 : Int32, ∀ k3 : Int32, ∀ rs : Nat → Nat, ∀ rl : Nat → Nat, ∀ g1 : Nat → Int32, ((∀ j, vp_nar .byte (g1 j) = g1 j) ∧ (zd_run m (zcode f n) (8 * n) (8 * n) 0 (m + 1) (2 ^ m + 2) true ls ll rs0 rl0 g 0).1 = 2) → ∀ x9 : Nat, post (.threw x9) [(ax, .inr (4, [.ref t, .int (0 : Int32), .ref rr, .ref sp, .int (nI r), .ref ua, .ref pa])), (t, .inl (cB, 16384, .inl f)), (ua, .inr (2, [.ref na, .ref sa, .ref la, .ref sp, .int k1, .int k2, .int k3])), (na, .inr (0, [.int m1, .int b1, .int x1, .int f1])), (sa, .inl (cI, 4096, .inl (zf rs))), (la, .inl (cI, 4096, .inl (zf rl))), (sp, .inl (cB, 16384, .inl g1)), (x9, .inr (7, []))]) (t29_2 : ∀ m1 : Int32, ∀ b1 : Int32, ∀ x1 : Int32, ∀ f1 : Int32, ∀ k1 : Int32, ∀ k2 : Int32, ∀ k3 : Int32, ∀ rs : Nat → Nat, ∀ rl : Nat → Nat, ∀ g1 : Nat → Int32, ((∀ j, vp_nar .byte (g1 j) = g1 j) ∧ (zd_run m (zcode f n) (8 * n) (8 * n) 0 (m + 1) (2 ^ m + 2) true ls ll rs0 rl0 g 0).1 = 3) → ∀ x9 : Nat, post (.threw x9) [(ax, .inr (4, [.ref t, .int (0 : Int32), .ref rr, .ref sp, .int (nI r), .ref ua, .ref pa])), (t, .inl (cB, 16384, .inl f)), (ua, .inr (2, [.ref na, .ref sa, .ref la, .ref sp, .int k1, .int k2, .int k3])), (na, .inr (0, [.int m1, .int b1, .int x1, .int f1])), (sa, .inl (cI, 4096, .inl (zf rs))), (la, .inl (cI, 4096, .inl (zf rl))), (sp, .inl (cB, 16384, .inl g1)), (x9, .inr (8, []))]) : zx_At p l e (zr 10 1 6) s mi args below meth co (zx_Q below s D zcl w0 kr nr (zr 10 1 6) post) D zcl (va_A w0 s.heap.size) 3 [(0, .ref ax), (1, .int (nI m))] [(ax, .inr (4, [.ref t, .int (nI n), .ref rr, .ref sp, .int (nI r), .ref ua, .ref pa])), (t, .inl (cB, 16384, .inl f)), (ua, .inr (2, [.ref na, .ref sa, .ref la, .ref i0, .int made9, .int (nI ls), .int (nI ll)])), (na, .inr (0, [.int u1, .int u2, .int u3, .int u4])), (sa, .inl (cI, 4096, .inl (zf rs0))), (la, .inl (cI, 4096, .inl (zf rl0))), (sp, .inl (cB, 16384, .inl g))] 0 0 4 [] := by
  refine zx_aload_n (pc := 4) C d_LB_unpack_4 rfl 0 rfl ?_
  refine zx_get (pc := 5) (ci := 4) (Cn := R_LB) (T := T_LB) (N := 7) (v := .int (nI n)) C zu_LB 0 rfl rfl 1 (by decide) zw_130 rfl rfl d_LB_unpack_5 ?_
  refine zx_istore_n (pc := 8) C d_LB_unpack_8 rfl (by decide) (lv' := [(2, .int (nI n)), (0, .ref ax), (1, .int (nI m))]) rfl ?_
  refine zx_aload_n (pc := 9) C d_LB_unpack_9 rfl 1 rfl ?_
  refine zx_iconst (pc := 10) C d_LB_unpack_10 (v := (0 : Int32)) (by decide) ?_
  refine zx_put (pc := 11) (ci := 4) (Cn := R_LB) (T := T_LB) (N := 7) (v := .int (0 : Int32)) (ty := .int) (ws' := [(ax, .inr (4, [.ref t, .int (0 : Int32), .ref rr, .ref sp, .int (nI r), .ref ua, .ref pa])), (t, .inl (cB, 16384, .inl f)), (ua, .inr (2, [.ref na, .ref sa, .ref la, .ref i0, .int made9, .int (nI ls), .int (nI ll)])), (na, .inr (0, [.int u1, .int u2, .int u3, .int u4])), (sa, .inl (cI, 4096, .inl (zf rs0))), (la, .inl (cI, 4096, .inl (zf rl0))), (sp, .inl (cB, 16384, .inl g))]) C zu_LB ty_LB tyk_LB nm_LB 0 rfl rfl 1 (by decide) zw_130 rfl rfl (by decide +kernel) rfl rfl (Nat.le_of_ble_eq_true rfl) rfl d_LB_unpack_11 ?_
  refine zx_aload_n (pc := 14) C d_LB_unpack_14 rfl 1 rfl ?_
  refine zx_aload_n (pc := 15) C d_LB_unpack_15 rfl 1 rfl ?_
  refine zx_get (pc := 16) (ci := 4) (Cn := R_LB) (T := T_LB) (N := 7) (v := .ref ua) C zu_LB 0 rfl rfl 5 (by decide) zw_134 rfl rfl d_LB_unpack_16 ?_
  refine zx_aload_n (pc := 19) C d_LB_unpack_19 rfl 1 rfl ?_
  refine zx_get (pc := 20) (ci := 4) (Cn := R_LB) (T := T_LB) (N := 7) (v := .ref t) C zu_LB 0 rfl rfl 0 (by decide) zw_129 rfl rfl d_LB_unpack_20 ?_
  refine zx_iload_n (pc := 23) C d_LB_unpack_23 rfl 0 rfl ?_
  refine zx_iload_n (pc := 24) C d_LB_unpack_24 rfl 2 rfl ?_
  refine zx_aload_n (pc := 25) C d_LB_unpack_25 rfl 1 rfl ?_
  refine zx_get (pc := 26) (ci := 4) (Cn := R_LB) (T := T_LB) (N := 7) (v := .ref sp) C zu_LB 0 rfl rfl 3 (by decide) zw_132 rfl rfl d_LB_unpack_26 ?_
  refine zx_callV (pc := 29) (ix := 65) (As := [.ref t, .int (nI n), .int (nI m), .ref sp]) (b := ua) (q0 := 2) (wr := [(ax, .inr (4, [.ref t, .int (0 : Int32), .ref rr, .ref sp, .int (nI r), .ref ua, .ref pa]))]) (st := [.ref ax]) C (zx_cw.of (C.w zw_277)) (by decide +kernel) ⟨by decide +kernel, by decide +kernel⟩ zw_275 zw_276 zw_274 rfl rfl rfl rfl rfl (k_UN_read l D cB cI cL hl9 ua na sa la i0 t sp m n ls ll rs0 rl0 f g u1 u2 u3 u4 made9 hm hn hby0) rfl [2, 3, 4, 5, 1, 6] [0] rfl rfl (by decide) (by decide) (by decide) (Nat.le_of_ble_eq_true rfl) (Nat.le_of_ble_eq_true rfl) (Nat.le_of_ble_eq_true rfl) (Nat.le_of_ble_eq_true rfl) d_LB_unpack_29 (fun o w1 hp => ?_)
  rcases hp with ⟨m1, b1, x1, f1, k1, k2, k3, rs, rl, g1, hc29, rfl, rfl⟩ | ⟨m1, b1, x1, f1, k1, k2, k3, rs, rl, g1, hc29, x9, rfl, rfl⟩ | ⟨m1, b1, x1, f1, k1, k2, k3, rs, rl, g1, hc29, x9, rfl, rfl⟩
  · refine zx_ri (k2 := 0) (n2 := 0) rfl rfl ?_
    refine zx_ws (ws' := [(ax, .inr (4, [.ref t, .int (0 : Int32), .ref rr, .ref sp, .int (nI r), .ref ua, .ref pa])), (t, .inl (cB, 16384, .inl f)), (ua, .inr (2, [.ref na, .ref sa, .ref la, .ref sp, .int k1, .int k2, .int k3])), (na, .inr (0, [.int m1, .int b1, .int x1, .int f1])), (sa, .inl (cI, 4096, .inl (zf rs))), (la, .inl (cI, 4096, .inl (zf rl))), (sp, .inl (cB, 16384, .inl g1))]) [0, 5, 1, 2, 3, 4, 6] (by decide) rfl ?_
    refine zx_callV (pc := 32) (ix := 69) (As := [.int (nI (zd_run m (zcode f n) (8 * n) (8 * n) 0 (m + 1) (2 ^ m + 2) true ls ll rs0 rl0 g 0).2.1)]) (b := ax) (q0 := 0) (wr := [(t, .inl (cB, 16384, .inl f)), (ua, .inr (2, [.ref na, .ref sa, .ref la, .ref sp, .int k1, .int k2, .int k3])), (na, .inr (0, [.int m1, .int b1, .int x1, .int f1])), (sa, .inl (cI, 4096, .inl (zf rs))), (la, .inl (cI, 4096, .inl (zf rl))), (sp, .inl (cB, 16384, .inl g1))]) (st := []) C (zx_cw.of (C.w zw_346)) (by decide +kernel) ⟨by decide +kernel, by decide +kernel⟩ zw_345 zs_LB_takeSpareAsResult zw_343 rfl rfl rfl rfl rfl (k_LB_takeSpareAsResult l D cB cI cL (zr 0 0 0) ax t rr sp ua pa 0 r (nI (zd_run m (zcode f n) (8 * n) (8 * n) 0 (m + 1) (2 ^ m + 2) true ls ll rs0 rl0 g 0).2.1)) rfl [0] [1, 2, 3, 4, 5, 6] rfl rfl (by decide) (by decide) (by decide) (Nat.le_of_ble_eq_true rfl) (Nat.le_of_ble_eq_true rfl) (Nat.le_of_ble_eq_true rfl) (Nat.le_of_ble_eq_true rfl) d_LB_unpack_32 (fun o w1 hp => ?_)
    obtain ⟨rfl, rfl⟩ := hp
    refine zx_rv (k2 := 0) (n2 := 0) rfl rfl ?_
    refine zx_ws (ws' := [(ax, .inr (4, [.ref t, .int (0 : Int32), .ref sp, .ref rr, .int (nI (zd_run m (zcode f n) (8 * n) (8 * n) 0 (m + 1) (2 ^ m + 2) true ls ll rs0 rl0 g 0).2.1), .ref ua, .ref pa])), (t, .inl (cB, 16384, .inl f)), (ua, .inr (2, [.ref na, .ref sa, .ref la, .ref sp, .int k1, .int k2, .int k3])), (na, .inr (0, [.int m1, .int b1, .int x1, .int f1])), (sa, .inl (cI, 4096, .inl (zf rs))), (la, .inl (cI, 4096, .inl (zf rl))), (sp, .inl (cB, 16384, .inl g1))]) [6, 0, 1, 2, 3, 4, 5] (by decide) rfl ?_
    refine zx_aload_n (pc := 35) C d_LB_unpack_35 rfl 1 rfl ?_
    refine zx_get (pc := 36) (ci := 4) (Cn := R_LB) (T := T_LB) (N := 7) (v := .int (nI (zd_run m (zcode f n) (8 * n) (8 * n) 0 (m + 1) (2 ^ m + 2) true ls ll rs0 rl0 g 0).2.1)) C zu_LB 0 rfl rfl 4 (by decide) zw_133 rfl rfl d_LB_unpack_36 ?_
    exact zx_iret (pc := 39) C hr9 hlk9 (Nat.zero_le _) (Nat.zero_le _) d_LB_unpack_39 (r39 m1 b1 x1 f1 k1 k2 k3 rs rl g1 hc29)
  · exact zx_rt (k2 := 1) (n2 := 6) rfl rfl (zx_wsT (ws' := [(ax, .inr (4, [.ref t, .int (0 : Int32), .ref rr, .ref sp, .int (nI r), .ref ua, .ref pa])), (t, .inl (cB, 16384, .inl f)), (ua, .inr (2, [.ref na, .ref sa, .ref la, .ref sp, .int k1, .int k2, .int k3])), (na, .inr (0, [.int m1, .int b1, .int x1, .int f1])), (sa, .inl (cI, 4096, .inl (zf rs))), (la, .inl (cI, 4096, .inl (zf rl))), (sp, .inl (cB, 16384, .inl g1)), (x9, .inr (7, []))]) [0, 5, 1, 2, 3, 4, 6, 7] (by decide) rfl (zx_leave hlk9 (zx_noTab ht9 _) (Nat.le_of_ble_eq_true rfl) (Nat.le_of_ble_eq_true rfl) (t29 m1 b1 x1 f1 k1 k2 k3 rs rl g1 hc29 x9)))
  · exact zx_rt (k2 := 1) (n2 := 6) rfl rfl (zx_wsT (ws' := [(ax, .inr (4, [.ref t, .int (0 : Int32), .ref rr, .ref sp, .int (nI r), .ref ua, .ref pa])), (t, .inl (cB, 16384, .inl f)), (ua, .inr (2, [.ref na, .ref sa, .ref la, .ref sp, .int k1, .int k2, .int k3])), (na, .inr (0, [.int m1, .int b1, .int x1, .int f1])), (sa, .inl (cI, 4096, .inl (zf rs))), (la, .inl (cI, 4096, .inl (zf rl))), (sp, .inl (cB, 16384, .inl g1)), (x9, .inr (8, []))]) [0, 5, 1, 2, 3, 4, 6, 7] (by decide) rfl (zx_leave hlk9 (zx_noTab ht9 _) (Nat.le_of_ble_eq_true rfl) (Nat.le_of_ble_eq_true rfl) (t29_2 m1 b1 x1 f1 k1 k2 k3 rs rl g1 hc29 x9)))

/-- what unpack gives -/
def zp_unp (ax t rr sp ua pa na sa la i0 n r ls ll : Nat) (m9 made9 u1 u2 u3 u4 : Int32) (rs0 rl0 : Nat → Nat) (f g : Nat → Int32) (cB cI : ClassId) : Outcome → va_W → Prop := fun o w =>
  ((m9 < 2 ∨ 8 < m9) ∧ ∃ x0 : Nat, o = .threw x0 ∧ w = [(ax, .inr (4, [.ref t, .int (nI n), .ref rr, .ref sp, .int (nI r), .ref ua, .ref pa])), (t, .inl (cB, 16384, .inl f)), (ua, .inr (2, [.ref na, .ref sa, .ref la, .ref i0, .int made9, .int (nI ls), .int (nI ll)])), (na, .inr (0, [.int u1, .int u2, .int u3, .int u4])), (sa, .inl (cI, 4096, .inl (zf rs0))), (la, .inl (cI, 4096, .inl (zf rl0))), (sp, .inl (cB, 16384, .inl g)), (x0, .inr (6, []))]) ∨
  (∃ (q : Nat) (m1 b1 x1 f1 k1 k2 k3 : Int32) (rs rl : Nat → Nat) (g1 : Nat → Int32), (∃ m, (m9 = nI m ∧ 2 ≤ m ∧ m ≤ 8) ∧ (∀ j, vp_nar .byte (g1 j) = g1 j) ∧ (zd_run m (zcode f n) (8 * n) (8 * n) 0 (m + 1) (2 ^ m + 2) true ls ll rs0 rl0 g 0).1 = 0 ∧ g1 = (zd_run m (zcode f n) (8 * n) (8 * n) 0 (m + 1) (2 ^ m + 2) true ls ll rs0 rl0 g 0).2.2 ∧ q = (zd_run m (zcode f n) (8 * n) (8 * n) 0 (m + 1) (2 ^ m + 2) true ls ll rs0 rl0 g 0).2.1) ∧ o = .returned (some (.int (nI q))) ∧ w = [(ax, .inr (4, [.ref t, .int (0 : Int32), .ref sp, .ref rr, .int (nI q), .ref ua, .ref pa])), (t, .inl (cB, 16384, .inl f)), (ua, .inr (2, [.ref na, .ref sa, .ref la, .ref sp, .int k1, .int k2, .int k3])), (na, .inr (0, [.int m1, .int b1, .int x1, .int f1])), (sa, .inl (cI, 4096, .inl (zf rs))), (la, .inl (cI, 4096, .inl (zf rl))), (sp, .inl (cB, 16384, .inl g1))]) ∨
  (∃ (m1 b1 x1 f1 k1 k2 k3 : Int32) (rs rl : Nat → Nat) (g1 : Nat → Int32), (∃ m, (m9 = nI m ∧ 2 ≤ m ∧ m ≤ 8) ∧ (∀ j, vp_nar .byte (g1 j) = g1 j) ∧ (zd_run m (zcode f n) (8 * n) (8 * n) 0 (m + 1) (2 ^ m + 2) true ls ll rs0 rl0 g 0).1 = 2) ∧ ∃ x0 : Nat, o = .threw x0 ∧ w = [(ax, .inr (4, [.ref t, .int (0 : Int32), .ref rr, .ref sp, .int (nI r), .ref ua, .ref pa])), (t, .inl (cB, 16384, .inl f)), (ua, .inr (2, [.ref na, .ref sa, .ref la, .ref sp, .int k1, .int k2, .int k3])), (na, .inr (0, [.int m1, .int b1, .int x1, .int f1])), (sa, .inl (cI, 4096, .inl (zf rs))), (la, .inl (cI, 4096, .inl (zf rl))), (sp, .inl (cB, 16384, .inl g1)), (x0, .inr (7, []))]) ∨
  (∃ (m1 b1 x1 f1 k1 k2 k3 : Int32) (rs rl : Nat → Nat) (g1 : Nat → Int32), (∃ m, (m9 = nI m ∧ 2 ≤ m ∧ m ≤ 8) ∧ (∀ j, vp_nar .byte (g1 j) = g1 j) ∧ (zd_run m (zcode f n) (8 * n) (8 * n) 0 (m + 1) (2 ^ m + 2) true ls ll rs0 rl0 g 0).1 = 3) ∧ ∃ x0 : Nat, o = .threw x0 ∧ w = [(ax, .inr (4, [.ref t, .int (0 : Int32), .ref rr, .ref sp, .int (nI r), .ref ua, .ref pa])), (t, .inl (cB, 16384, .inl f)), (ua, .inr (2, [.ref na, .ref sa, .ref la, .ref sp, .int k1, .int k2, .int k3])), (na, .inr (0, [.int m1, .int b1, .int x1, .int f1])), (sa, .inl (cI, 4096, .inl (zf rs))), (la, .inl (cI, 4096, .inl (zf rl))), (sp, .inl (cB, 16384, .inl g1)), (x0, .inr (8, []))])
theorem k_LB_unpack (l : Launch) (D : va_G) (cB cI cL : ClassId) (hl : l.stackTraces = false) (ax t rr sp ua pa na sa la i0 n r ls ll : Nat) (m9 made9 u1 u2 u3 u4 : Int32) (rs0 rl0 : Nat → Nat) (f g : Nat → Int32) (hn : n ≤ 16384) (hby0 : ∀ j, vp_nar .byte (g j) = g j) : zx_K l zB D zcl (zt cB cI cL) y_LB_unpack b_LB_unpack 3 (some .int) [] 0 0 (zr 10 1 6) [.ref ax, .int m9] [(ax, .inr (4, [.ref t, .int (nI n), .ref rr, .ref sp, .int (nI r), .ref ua, .ref pa])), (t, .inl (cB, 16384, .inl f)), (ua, .inr (2, [.ref na, .ref sa, .ref la, .ref i0, .int made9, .int (nI ls), .int (nI ll)])), (na, .inr (0, [.int u1, .int u2, .int u3, .int u4])), (sa, .inl (cI, 4096, .inl (zf rs0))), (la, .inl (cI, 4096, .inl (zf rl0))), (sp, .inl (cB, 16384, .inl g))] (zp_unp ax t rr sp ua pa na sa la i0 n r ls ll m9 made9 u1 u2 u3 u4 rs0 rl0 f g cB cI) := by
  refine zx_K.mk (Nat.le_of_ble_eq_true rfl) (fun p e s mm below meth c9 C hr hlk ht hnm => ?_)
  refine sg_LB_un0 C hr hlk hl ht (fun h x0 => Or.inl ⟨h, x0, rfl, rfl⟩) (fun h => ?_)
  obtain ⟨m, hm9, hm⟩ := zm_ok h
  subst hm9
  exact sg_LB_un4 C hm hn hby0 hr hlk hl ht (fun m1 b1 x1 f1 k1 k2 k3 rs rl g1 hc => Or.inr (Or.inl ⟨_, m1, b1, x1, f1, k1, k2, k3, rs, rl, g1, ⟨m, ⟨rfl, hm⟩, hc.1, hc.2.1, hc.2.2, rfl⟩, rfl, rfl⟩)) (fun m1 b1 x1 f1 k1 k2 k3 rs rl g1 hc x0 => Or.inr (Or.inr (Or.inl ⟨m1, b1, x1, f1, k1, k2, k3, rs, rl, g1, ⟨m, ⟨rfl, hm⟩, hc.1, hc.2⟩, x0, rfl, rfl⟩))) (fun m1 b1 x1 f1 k1 k2 k3 rs rl g1 hc x0 => Or.inr (Or.inr (Or.inr ⟨m1, b1, x1, f1, k1, k2, k3, rs, rl, g1, ⟨m, ⟨rfl, hm⟩, hc.1, hc.2⟩, x0, rfl, rfl⟩)))
set_option maxRecDepth 100000 in
set_option maxHeartbeats 4000000 in
theorem sg_LB_pk0 {p : Program} {l : Launch} {e : Env} {s : State} {mi : MethodId} {args : Array Value} {below : List Frame} {meth : Method} {co : Code} {D : va_G} {cB cI cL : ClassId} {w0 : va_W} {kr nr : Nat} {post : Outcome → va_W → Prop} (C : zx_C p s mi args co b_LB_pack 2 R_LB zB D zcl (zt cB cI cL) (va_A w0 s.heap.size)) {ax t rr sp ua pa pn pk pf ps pl qb n r : Nat} {u1 u2 u3 u4 v1 v2 v3 : Int32} {fc0 ns0 li0 : Nat → Nat} {f g : Nat → Int32} {m9 : Int32} (hr9 : meth.sig.returnType = some .int) (hlk9 : meth.locks = false) (hl9 : l.stackTraces = false) (ht9 : co.exceptionTable.toList.map (fun h => (h.startPc, h.endPc, h.handlerPc, h.catchType)) = []) (t1 : (m9 < 2 ∨ 8 < m9) → ∀ x9 : Nat, post (.threw x9) [(ax, .inr (4, [.ref t, .int (nI n), .ref rr, .ref sp, .int (nI r), .ref ua, .ref pa])), (t, .inl (cB, 16384, .inl f)), (pa, .inr (3, [.ref pn, .ref pk, .ref pf, .ref ps, .ref pl])), (pn, .inr (0, [.int u1, .int u2, .int u3, .int u4])), (pk, .inr (1, [.ref qb, .int v1, .int v2, .int v3])), (pf, .inl (cI, 4096, .inl (zf fc0))), (ps, .inl (cI, 4096, .inl (zf ns0))), (pl, .inl (cI, 4096, .inl (zf li0))), (sp, .inl (cB, 16384, .inl g)), (x9, .inr (6, []))]) (k4 : (¬ (m9 < 2 ∨ 8 < m9)) → zx_At p l e (zr 13 1 6) s mi args below meth co (zx_Q below s D zcl w0 kr nr (zr 13 1 6) post) D zcl (va_A w0 s.heap.size) 2 [(0, .ref ax), (1, .int m9)] [(ax, .inr (4, [.ref t, .int (nI n), .ref rr, .ref sp, .int (nI r), .ref ua, .ref pa])), (t, .inl (cB, 16384, .inl f)), (pa, .inr (3, [.ref pn, .ref pk, .ref pf, .ref ps, .ref pl])), (pn, .inr (0, [.int u1, .int u2, .int u3, .int u4])), (pk, .inr (1, [.ref qb, .int v1, .int v2, .int v3])), (pf, .inl (cI, 4096, .inl (zf fc0))), (ps, .inl (cI, 4096, .inl (zf ns0))), (pl, .inl (cI, 4096, .inl (zf li0))), (sp, .inl (cB, 16384, .inl g))] 0 0 4 []) : zx_At p l e (zr 13 1 6) s mi args below meth co (zx_Q below s D zcl w0 kr nr (zr 13 1 6) post) D zcl (va_A w0 s.heap.size) 2 [(0, .ref ax), (1, .int m9)] [(ax, .inr (4, [.ref t, .int (nI n), .ref rr, .ref sp, .int (nI r), .ref ua, .ref pa])), (t, .inl (cB, 16384, .inl f)), (pa, .inr (3, [.ref pn, .ref pk, .ref pf, .ref ps, .ref pl])), (pn, .inr (0, [.int u1, .int u2, .int u3, .int u4])), (pk, .inr (1, [.ref qb, .int v1, .int v2, .int v3])), (pf, .inl (cI, 4096, .inl (zf fc0))), (ps, .inl (cI, 4096, .inl (zf ns0))), (pl, .inl (cI, 4096, .inl (zf li0))), (sp, .inl (cB, 16384, .inl g))] 0 0 0 [] := by
  refine zx_iload_n (pc := 0) C d_LB_pack_0 rfl 1 rfl ?_
  refine zx_callS (pc := 1) (ix := 62) (wr := [(ax, .inr (4, [.ref t, .int (nI n), .ref rr, .ref sp, .int (nI r), .ref ua, .ref pa])), (t, .inl (cB, 16384, .inl f)), (pa, .inr (3, [.ref pn, .ref pk, .ref pf, .ref ps, .ref pl])), (pn, .inr (0, [.int u1, .int u2, .int u3, .int u4])), (pk, .inr (1, [.ref qb, .int v1, .int v2, .int v3])), (pf, .inl (cI, 4096, .inl (zf fc0))), (ps, .inl (cI, 4096, .inl (zf ns0))), (pl, .inl (cI, 4096, .inl (zf li0))), (sp, .inl (cB, 16384, .inl g))]) (st := []) C (zx_cw.of (C.w zw_272)) (by decide +kernel) ⟨by decide +kernel, by decide +kernel⟩ zw_271 zw_1 zw_270 rfl (k_LB_checkM l D cB cI cL hl9 m9) rfl [] [0, 1, 2, 3, 4, 5, 6, 7, 8] rfl rfl (by decide) (by decide) (by decide) (Nat.le_of_ble_eq_true rfl) (Nat.le_of_ble_eq_true rfl) (Nat.le_of_ble_eq_true rfl) (Nat.le_of_ble_eq_true rfl) d_LB_pack_1 (fun o w1 hp => ?_)
  rcases hp with ⟨hc1, x9, rfl, rfl⟩ | ⟨hc1, rfl, rfl⟩
  · exact zx_rt (k2 := 1) (n2 := 6) rfl rfl (zx_leave hlk9 (zx_noTab ht9 _) (Nat.le_of_ble_eq_true rfl) (Nat.le_of_ble_eq_true rfl) (t1 hc1 x9))
  · refine zx_rv (k2 := 0) (n2 := 0) rfl rfl ?_
    refine zx_ws (ws' := [(ax, .inr (4, [.ref t, .int (nI n), .ref rr, .ref sp, .int (nI r), .ref ua, .ref pa])), (t, .inl (cB, 16384, .inl f)), (pa, .inr (3, [.ref pn, .ref pk, .ref pf, .ref ps, .ref pl])), (pn, .inr (0, [.int u1, .int u2, .int u3, .int u4])), (pk, .inr (1, [.ref qb, .int v1, .int v2, .int v3])), (pf, .inl (cI, 4096, .inl (zf fc0))), (ps, .inl (cI, 4096, .inl (zf ns0))), (pl, .inl (cI, 4096, .inl (zf li0))), (sp, .inl (cB, 16384, .inl g))]) [0, 1, 2, 3, 4, 5, 6, 7, 8] (by decide) rfl ?_
    exact k4 hc1

set_option maxRecDepth 100000 in
set_option maxHeartbeats 4000000 in
theorem sg_LB_pk4 {p : Program} {l : Launch} {e : Env} {s : State} {mi : MethodId} {args : Array Value} {below : List Frame} {meth : Method} {co : Code} {D : va_G} {cB cI cL : ClassId} {w0 : va_W} {kr nr : Nat} {post : Outcome → va_W → Prop} (C : zx_C p s mi args co b_LB_pack 2 R_LB zB D zcl (zt cB cI cL) (va_A w0 s.heap.size)) {ax t rr sp ua pa pn pk pf ps pl qb n r m : Nat} {u1 u2 u3 u4 v1 v2 v3 : Int32} {fc0 ns0 li0 : Nat → Nat} {f g : Nat → Int32} (hm : 2 ≤ m ∧ m ≤ 8) (hn : n ≤ 16384) (hfc0 : ∀ j, fc0 j < 4096) (hns0 : ∀ j, ns0 j < 4096) (hli0 : ∀ j, li0 j < 256) (hby0 : ∀ j, vp_nar .byte (g j) = g j) (hix : ¬ (zb (decide (0 < n ∧ ∀ j, j < n → zu (f j) < 2 ^ m))) = 0 → 0 < n ∧ ∀ j, j < n → zu (f j) < 2 ^ m) (hr9 : meth.sig.returnType = some .int) (hlk9 : meth.locks = false) (hl9 : l.stackTraces = false) (ht9 : co.exceptionTable.toList.map (fun h => (h.startPc, h.endPc, h.handlerPc, h.catchType)) = []) (r50 : (¬ (zb (decide (0 < n ∧ ∀ j, j < n → zu (f j) < 2 ^ m))) = 0) → ∀ m1 : Int32, ∀ b1 : Int32, ∀ x1 : Int32, ∀ f1 : Int32, ∀ k1 : Int32, ∀ k2 : Int32, ∀ k3 : Int32, ∀ fc : Nat → Nat, ∀ ns : Nat → Nat, ∀ li : Nat → Nat, ∀ g1 : Nat → Int32, ((((ze_run m (fun j => zu (f j)) (n - 1) 1 (zu (f 0)) (2 ^ m) (m + 1) (m + 1) (2 ^ m + 2) true (fun _ _ => 0)).2 + 7) / 8) ≤ 16384 ∧ (∀ j, j < (((ze_run m (fun j => zu (f j)) (n - 1) 1 (zu (f 0)) (2 ^ m) (m + 1) (m + 1) (2 ^ m + 2) true (fun _ _ => 0)).2 + 7) / 8) → g1 j = zby ((ze_run m (fun j => zu (f j)) (n - 1) 1 (zu (f 0)) (2 ^ m) (m + 1) (m + 1) (2 ^ m + 2) true (fun _ _ => 0)).1 / 256 ^ j)) ∧ (∀ j, fc j < 4096) ∧ (∀ j, ns j < 4096) ∧ (∀ j, li j < 256) ∧ (∀ j, vp_nar .byte (g1 j) = g1 j)) → post (.returned (some (.int (nI (((ze_run m (fun j => zu (f j)) (n - 1) 1 (zu (f 0)) (2 ^ m) (m + 1) (m + 1) (2 ^ m + 2) true (fun _ _ => 0)).2 + 7) / 8))))) [(ax, .inr (4, [.ref t, .int (nI n), .ref sp, .ref rr, .int (nI (((ze_run m (fun j => zu (f j)) (n - 1) 1 (zu (f 0)) (2 ^ m) (m + 1) (m + 1) (2 ^ m + 2) true (fun _ _ => 0)).2 + 7) / 8)), .ref ua, .ref pa])), (t, .inl (cB, 16384, .inl f)), (pa, .inr (3, [.ref pn, .ref pk, .ref pf, .ref ps, .ref pl])), (pn, .inr (0, [.int m1, .int b1, .int x1, .int f1])), (pk, .inr (1, [.ref sp, .int k1, .int k2, .int k3])), (pf, .inl (cI, 4096, .inl (zf fc))), (ps, .inl (cI, 4096, .inl (zf ns))), (pl, .inl (cI, 4096, .inl (zf li))), (sp, .inl (cB, 16384, .inl g1))]) (t40 : (¬ (zb (decide (0 < n ∧ ∀ j, j < n → zu (f j) < 2 ^ m))) = 0) → ∀ m1 : Int32, ∀ b1 : Int32, ∀ x1 : Int32, ∀ f1 : Int32, ∀ k1 : Int32, ∀ k2 : Int32, ∀ k3 : Int32, ∀ fc : Nat → Nat, ∀ ns : Nat → Nat, ∀ li : Nat → Nat, ∀ g1 : Nat → Int32, (16384 < (((ze_run m (fun j => zu (f j)) (n - 1) 1 (zu (f 0)) (2 ^ m) (m + 1) (m + 1) (2 ^ m + 2) true (fun _ _ => 0)).2 + 7) / 8) ∧ (∀ j, fc j < 4096) ∧ (∀ j, ns j < 4096) ∧ (∀ j, li j < 256) ∧ (∀ j, vp_nar .byte (g1 j) = g1 j)) → ∀ x9 : Nat, post (.threw x9) [(ax, .inr (4, [.ref t, .int (nI n), .ref rr, .ref sp, .int (nI r), .ref ua, .ref pa])), (t, .inl (cB, 16384, .inl f)), (pa, .inr (3, [.ref pn, .ref pk, .ref pf, .ref ps, .ref pl])), (pn, .inr (0, [.int m1, .int b1, .int x1, .int f1])), (pk, .inr (1, [.ref sp, .int k1, .int k2, .int k3])), (pf, .inl (cI, 4096, .inl (zf fc))), (ps, .inl (cI, 4096, .inl (zf ns))), (pl, .inl (cI, 4096, .inl (zf li))), (sp, .inl (cB, 16384, .inl g1)), (x9, .inr (8, []))]) (t12 : ((zb (decide (0 < n ∧ ∀ j, j < n → zu (f j) < 2 ^ m))) = 0) → ∀ x9 : Nat, post (.threw x9) [(ax, .inr (4, [.ref t, .int (nI n), .ref rr, .ref sp, .int (nI r), .ref ua, .ref pa])), (t, .inl (cB, 16384, .inl f)), (pa, .inr (3, [.ref pn, .ref pk, .ref pf, .ref ps, .ref pl])), (pn, .inr (0, [.int u1, .int u2, .int u3, .int u4])), (pk, .inr (1, [.ref qb, .int v1, .int v2, .int v3])), (pf, .inl (cI, 4096, .inl (zf fc0))), (ps, .inl (cI, 4096, .inl (zf ns0))), (pl, .inl (cI, 4096, .inl (zf li0))), (sp, .inl (cB, 16384, .inl g)), (x9, .inr (7, []))]) : zx_At p l e (zr 13 1 6) s mi args below meth co (zx_Q below s D zcl w0 kr nr (zr 13 1 6) post) D zcl (va_A w0 s.heap.size) 2 [(0, .ref ax), (1, .int (nI m))] [(ax, .inr (4, [.ref t, .int (nI n), .ref rr, .ref sp, .int (nI r), .ref ua, .ref pa])), (t, .inl (cB, 16384, .inl f)), (pa, .inr (3, [.ref pn, .ref pk, .ref pf, .ref ps, .ref pl])), (pn, .inr (0, [.int u1, .int u2, .int u3, .int u4])), (pk, .inr (1, [.ref qb, .int v1, .int v2, .int v3])), (pf, .inl (cI, 4096, .inl (zf fc0))), (ps, .inl (cI, 4096, .inl (zf ns0))), (pl, .inl (cI, 4096, .inl (zf li0))), (sp, .inl (cB, 16384, .inl g))] 0 0 4 [] := by
  refine zx_aload_n (pc := 4) C d_LB_pack_4 rfl 0 rfl ?_
  refine zx_iload_n (pc := 5) C d_LB_pack_5 rfl 1 rfl ?_
  refine zx_callV (pc := 6) (ix := 72) (As := [.int (nI m)]) (b := ax) (q0 := 0) (wr := [(pa, .inr (3, [.ref pn, .ref pk, .ref pf, .ref ps, .ref pl])), (pn, .inr (0, [.int u1, .int u2, .int u3, .int u4])), (pk, .inr (1, [.ref qb, .int v1, .int v2, .int v3])), (pf, .inl (cI, 4096, .inl (zf fc0))), (ps, .inl (cI, 4096, .inl (zf ns0))), (pl, .inl (cI, 4096, .inl (zf li0))), (sp, .inl (cB, 16384, .inl g))]) (st := []) C (zx_cw.of (C.w zw_357)) (by decide +kernel) ⟨by decide +kernel, by decide +kernel⟩ zw_356 zs_LB_tapeIsIndices zw_354 rfl rfl rfl rfl rfl (k_LB_tapeIsIndices l D cB cI cL (zr 0 0 0) ax t rr sp ua pa n r m f hn hm.2) rfl [0, 1] [2, 3, 4, 5, 6, 7, 8] rfl rfl (by decide) (by decide) (by decide) (Nat.le_of_ble_eq_true rfl) (Nat.le_of_ble_eq_true rfl) (Nat.le_of_ble_eq_true rfl) (Nat.le_of_ble_eq_true rfl) d_LB_pack_6 (fun o w1 hp => ?_)
  obtain ⟨rfl, rfl⟩ := hp
  refine zx_ri (k2 := 0) (n2 := 0) rfl rfl ?_
  refine zx_ws (ws' := [(ax, .inr (4, [.ref t, .int (nI n), .ref rr, .ref sp, .int (nI r), .ref ua, .ref pa])), (t, .inl (cB, 16384, .inl f)), (pa, .inr (3, [.ref pn, .ref pk, .ref pf, .ref ps, .ref pl])), (pn, .inr (0, [.int u1, .int u2, .int u3, .int u4])), (pk, .inr (1, [.ref qb, .int v1, .int v2, .int v3])), (pf, .inl (cI, 4096, .inl (zf fc0))), (ps, .inl (cI, 4096, .inl (zf ns0))), (pl, .inl (cI, 4096, .inl (zf li0))), (sp, .inl (cB, 16384, .inl g))]) [7, 8, 0, 1, 2, 3, 4, 5, 6] (by decide) rfl ?_
  refine zx_if_ne (pc := 9) C 22 d_LB_pack_9 (by decide) (fun c9 => ?_) (fun c9 => ?_)
  · refine zx_aload_n (pc := 22) C d_LB_pack_22 rfl 0 rfl ?_
    refine zx_aload_n (pc := 23) C d_LB_pack_23 rfl 0 rfl ?_
    refine zx_get (pc := 24) (ci := 4) (Cn := R_LB) (T := T_LB) (N := 7) (v := .ref pa) C zu_LB 0 rfl rfl 6 (by decide) zw_135 rfl rfl d_LB_pack_24 ?_
    refine zx_aload_n (pc := 27) C d_LB_pack_27 rfl 0 rfl ?_
    refine zx_get (pc := 28) (ci := 4) (Cn := R_LB) (T := T_LB) (N := 7) (v := .ref t) C zu_LB 0 rfl rfl 0 (by decide) zw_129 rfl rfl d_LB_pack_28 ?_
    refine zx_aload_n (pc := 31) C d_LB_pack_31 rfl 0 rfl ?_
    refine zx_get (pc := 32) (ci := 4) (Cn := R_LB) (T := T_LB) (N := 7) (v := .int (nI n)) C zu_LB 0 rfl rfl 1 (by decide) zw_130 rfl rfl d_LB_pack_32 ?_
    refine zx_iload_n (pc := 35) C d_LB_pack_35 rfl 1 rfl ?_
    refine zx_aload_n (pc := 36) C d_LB_pack_36 rfl 0 rfl ?_
    refine zx_get (pc := 37) (ci := 4) (Cn := R_LB) (T := T_LB) (N := 7) (v := .ref sp) C zu_LB 0 rfl rfl 3 (by decide) zw_132 rfl rfl d_LB_pack_37 ?_
    refine zx_callV (pc := 40) (ix := 81) (As := [.ref t, .int (nI n), .int (nI m), .ref sp]) (b := pa) (q0 := 2) (wr := [(ax, .inr (4, [.ref t, .int (nI n), .ref rr, .ref sp, .int (nI r), .ref ua, .ref pa]))]) (st := [.ref ax]) C (zx_cw.of (C.w zw_364)) (by decide +kernel) ⟨by decide +kernel, by decide +kernel⟩ zw_362 zw_363 zw_361 rfl rfl rfl rfl rfl (k_PK_write l D cB cI cL hl9 pa pn pk qb sp t pf ps pl m n fc0 ns0 li0 f g u1 u2 u3 u4 v1 v2 v3 hm ⟨(hix c9).1, hn⟩ (hix c9).2 hfc0 hns0 hli0 hby0) rfl [2, 3, 4, 5, 6, 7, 1, 8] [0] rfl rfl (by decide) (by decide) (by decide) (Nat.le_of_ble_eq_true rfl) (Nat.le_of_ble_eq_true rfl) (Nat.le_of_ble_eq_true rfl) (Nat.le_of_ble_eq_true rfl) d_LB_pack_40 (fun o w1 hp => ?_)
    rcases hp with ⟨m1, b1, x1, f1, k1, k2, k3, fc, ns, li, g1, hc40, rfl, rfl⟩ | ⟨m1, b1, x1, f1, k1, k2, k3, fc, ns, li, g1, hc40, x9, rfl, rfl⟩
    · refine zx_ri (k2 := 0) (n2 := 0) rfl rfl ?_
      refine zx_ws (ws' := [(ax, .inr (4, [.ref t, .int (nI n), .ref rr, .ref sp, .int (nI r), .ref ua, .ref pa])), (t, .inl (cB, 16384, .inl f)), (pa, .inr (3, [.ref pn, .ref pk, .ref pf, .ref ps, .ref pl])), (pn, .inr (0, [.int m1, .int b1, .int x1, .int f1])), (pk, .inr (1, [.ref sp, .int k1, .int k2, .int k3])), (pf, .inl (cI, 4096, .inl (zf fc))), (ps, .inl (cI, 4096, .inl (zf ns))), (pl, .inl (cI, 4096, .inl (zf li))), (sp, .inl (cB, 16384, .inl g1))]) [0, 7, 1, 2, 3, 4, 5, 6, 8] (by decide) rfl ?_
      refine zx_callV (pc := 43) (ix := 69) (As := [.int (nI (((ze_run m (fun j => zu (f j)) (n - 1) 1 (zu (f 0)) (2 ^ m) (m + 1) (m + 1) (2 ^ m + 2) true (fun _ _ => 0)).2 + 7) / 8))]) (b := ax) (q0 := 0) (wr := [(t, .inl (cB, 16384, .inl f)), (pa, .inr (3, [.ref pn, .ref pk, .ref pf, .ref ps, .ref pl])), (pn, .inr (0, [.int m1, .int b1, .int x1, .int f1])), (pk, .inr (1, [.ref sp, .int k1, .int k2, .int k3])), (pf, .inl (cI, 4096, .inl (zf fc))), (ps, .inl (cI, 4096, .inl (zf ns))), (pl, .inl (cI, 4096, .inl (zf li))), (sp, .inl (cB, 16384, .inl g1))]) (st := []) C (zx_cw.of (C.w zw_346)) (by decide +kernel) ⟨by decide +kernel, by decide +kernel⟩ zw_345 zs_LB_takeSpareAsResult zw_343 rfl rfl rfl rfl rfl (k_LB_takeSpareAsResult l D cB cI cL (zr 0 0 0) ax t rr sp ua pa n r (nI (((ze_run m (fun j => zu (f j)) (n - 1) 1 (zu (f 0)) (2 ^ m) (m + 1) (m + 1) (2 ^ m + 2) true (fun _ _ => 0)).2 + 7) / 8))) rfl [0] [1, 2, 3, 4, 5, 6, 7, 8] rfl rfl (by decide) (by decide) (by decide) (Nat.le_of_ble_eq_true rfl) (Nat.le_of_ble_eq_true rfl) (Nat.le_of_ble_eq_true rfl) (Nat.le_of_ble_eq_true rfl) d_LB_pack_43 (fun o w1 hp => ?_)
      obtain ⟨rfl, rfl⟩ := hp
      refine zx_rv (k2 := 0) (n2 := 0) rfl rfl ?_
      refine zx_ws (ws' := [(ax, .inr (4, [.ref t, .int (nI n), .ref sp, .ref rr, .int (nI (((ze_run m (fun j => zu (f j)) (n - 1) 1 (zu (f 0)) (2 ^ m) (m + 1) (m + 1) (2 ^ m + 2) true (fun _ _ => 0)).2 + 7) / 8)), .ref ua, .ref pa])), (t, .inl (cB, 16384, .inl f)), (pa, .inr (3, [.ref pn, .ref pk, .ref pf, .ref ps, .ref pl])), (pn, .inr (0, [.int m1, .int b1, .int x1, .int f1])), (pk, .inr (1, [.ref sp, .int k1, .int k2, .int k3])), (pf, .inl (cI, 4096, .inl (zf fc))), (ps, .inl (cI, 4096, .inl (zf ns))), (pl, .inl (cI, 4096, .inl (zf li))), (sp, .inl (cB, 16384, .inl g1))]) [8, 0, 1, 2, 3, 4, 5, 6, 7] (by decide) rfl ?_
      refine zx_aload_n (pc := 46) C d_LB_pack_46 rfl 0 rfl ?_
      refine zx_get (pc := 47) (ci := 4) (Cn := R_LB) (T := T_LB) (N := 7) (v := .int (nI (((ze_run m (fun j => zu (f j)) (n - 1) 1 (zu (f 0)) (2 ^ m) (m + 1) (m + 1) (2 ^ m + 2) true (fun _ _ => 0)).2 + 7) / 8))) C zu_LB 0 rfl rfl 4 (by decide) zw_133 rfl rfl d_LB_pack_47 ?_
      exact zx_iret (pc := 50) C hr9 hlk9 (Nat.zero_le _) (Nat.zero_le _) d_LB_pack_50 (r50 c9 m1 b1 x1 f1 k1 k2 k3 fc ns li g1 hc40)
    · exact zx_rt (k2 := 1) (n2 := 6) rfl rfl (zx_wsT (ws' := [(ax, .inr (4, [.ref t, .int (nI n), .ref rr, .ref sp, .int (nI r), .ref ua, .ref pa])), (t, .inl (cB, 16384, .inl f)), (pa, .inr (3, [.ref pn, .ref pk, .ref pf, .ref ps, .ref pl])), (pn, .inr (0, [.int m1, .int b1, .int x1, .int f1])), (pk, .inr (1, [.ref sp, .int k1, .int k2, .int k3])), (pf, .inl (cI, 4096, .inl (zf fc))), (ps, .inl (cI, 4096, .inl (zf ns))), (pl, .inl (cI, 4096, .inl (zf li))), (sp, .inl (cB, 16384, .inl g1)), (x9, .inr (8, []))]) [0, 7, 1, 2, 3, 4, 5, 6, 8, 9] (by decide) rfl (zx_leave hlk9 (zx_noTab ht9 _) (Nat.le_of_ble_eq_true rfl) (Nat.le_of_ble_eq_true rfl) (t40 c9 m1 b1 x1 f1 k1 k2 k3 fc ns li g1 hc40 x9)))
  · exact zx_throwS (pc := 12) (names := zex) (ci := 7) C hl9 (by decide +kernel) zex_fit zw_358 zw_13 zw_359 zh_LB_80 rfl hlk9 (zx_noTab ht9 _) d_LB_pack_12 d_LB_pack_15 d_LB_pack_16 d_LB_pack_18 d_LB_pack_21 (Nat.le_of_ble_eq_true rfl) (Nat.le_of_ble_eq_true rfl) (Nat.le_of_ble_eq_true rfl) (Nat.le_of_ble_eq_true rfl) (t12 c9)

/-- what pack gives -/
def zp_pak (ax t rr sp ua pa pn pk pf ps pl qb n r : Nat) (m9 u1 u2 u3 u4 v1 v2 v3 : Int32) (fc0 ns0 li0 : Nat → Nat) (f g : Nat → Int32) (cB cI : ClassId) : Outcome → va_W → Prop := fun o w =>
  ((m9 < 2 ∨ 8 < m9) ∧ ∃ x0 : Nat, o = .threw x0 ∧ w = [(ax, .inr (4, [.ref t, .int (nI n), .ref rr, .ref sp, .int (nI r), .ref ua, .ref pa])), (t, .inl (cB, 16384, .inl f)), (pa, .inr (3, [.ref pn, .ref pk, .ref pf, .ref ps, .ref pl])), (pn, .inr (0, [.int u1, .int u2, .int u3, .int u4])), (pk, .inr (1, [.ref qb, .int v1, .int v2, .int v3])), (pf, .inl (cI, 4096, .inl (zf fc0))), (ps, .inl (cI, 4096, .inl (zf ns0))), (pl, .inl (cI, 4096, .inl (zf li0))), (sp, .inl (cB, 16384, .inl g)), (x0, .inr (6, []))]) ∨
  ((∃ m, (m9 = nI m ∧ 2 ≤ m ∧ m ≤ 8) ∧ ¬ (0 < n ∧ ∀ j, j < n → zu (f j) < 2 ^ m)) ∧ ∃ x0 : Nat, o = .threw x0 ∧ w = [(ax, .inr (4, [.ref t, .int (nI n), .ref rr, .ref sp, .int (nI r), .ref ua, .ref pa])), (t, .inl (cB, 16384, .inl f)), (pa, .inr (3, [.ref pn, .ref pk, .ref pf, .ref ps, .ref pl])), (pn, .inr (0, [.int u1, .int u2, .int u3, .int u4])), (pk, .inr (1, [.ref qb, .int v1, .int v2, .int v3])), (pf, .inl (cI, 4096, .inl (zf fc0))), (ps, .inl (cI, 4096, .inl (zf ns0))), (pl, .inl (cI, 4096, .inl (zf li0))), (sp, .inl (cB, 16384, .inl g)), (x0, .inr (7, []))]) ∨
  (∃ (q : Nat) (m1 b1 x1 f1 k1 k2 k3 : Int32) (fc ns li : Nat → Nat) (g1 : Nat → Int32), (∃ m, (m9 = nI m ∧ 2 ≤ m ∧ m ≤ 8) ∧ (0 < n ∧ ∀ j, j < n → zu (f j) < 2 ^ m) ∧ q = (((ze_run m (fun j => zu (f j)) (n - 1) 1 (zu (f 0)) (2 ^ m) (m + 1) (m + 1) (2 ^ m + 2) true (fun _ _ => 0)).2 + 7) / 8) ∧ (((ze_run m (fun j => zu (f j)) (n - 1) 1 (zu (f 0)) (2 ^ m) (m + 1) (m + 1) (2 ^ m + 2) true (fun _ _ => 0)).2 + 7) / 8) ≤ 16384 ∧ (∀ j, j < (((ze_run m (fun j => zu (f j)) (n - 1) 1 (zu (f 0)) (2 ^ m) (m + 1) (m + 1) (2 ^ m + 2) true (fun _ _ => 0)).2 + 7) / 8) → g1 j = zby ((ze_run m (fun j => zu (f j)) (n - 1) 1 (zu (f 0)) (2 ^ m) (m + 1) (m + 1) (2 ^ m + 2) true (fun _ _ => 0)).1 / 256 ^ j)) ∧ (∀ j, fc j < 4096) ∧ (∀ j, ns j < 4096) ∧ (∀ j, li j < 256) ∧ (∀ j, vp_nar .byte (g1 j) = g1 j)) ∧ o = .returned (some (.int (nI q))) ∧ w = [(ax, .inr (4, [.ref t, .int (nI n), .ref sp, .ref rr, .int (nI q), .ref ua, .ref pa])), (t, .inl (cB, 16384, .inl f)), (pa, .inr (3, [.ref pn, .ref pk, .ref pf, .ref ps, .ref pl])), (pn, .inr (0, [.int m1, .int b1, .int x1, .int f1])), (pk, .inr (1, [.ref sp, .int k1, .int k2, .int k3])), (pf, .inl (cI, 4096, .inl (zf fc))), (ps, .inl (cI, 4096, .inl (zf ns))), (pl, .inl (cI, 4096, .inl (zf li))), (sp, .inl (cB, 16384, .inl g1))]) ∨
  (∃ (m1 b1 x1 f1 k1 k2 k3 : Int32) (fc ns li : Nat → Nat) (g1 : Nat → Int32), (∃ m, (m9 = nI m ∧ 2 ≤ m ∧ m ≤ 8) ∧ (0 < n ∧ ∀ j, j < n → zu (f j) < 2 ^ m) ∧ 16384 < (((ze_run m (fun j => zu (f j)) (n - 1) 1 (zu (f 0)) (2 ^ m) (m + 1) (m + 1) (2 ^ m + 2) true (fun _ _ => 0)).2 + 7) / 8) ∧ (∀ j, fc j < 4096) ∧ (∀ j, ns j < 4096) ∧ (∀ j, li j < 256) ∧ (∀ j, vp_nar .byte (g1 j) = g1 j)) ∧ ∃ x0 : Nat, o = .threw x0 ∧ w = [(ax, .inr (4, [.ref t, .int (nI n), .ref rr, .ref sp, .int (nI r), .ref ua, .ref pa])), (t, .inl (cB, 16384, .inl f)), (pa, .inr (3, [.ref pn, .ref pk, .ref pf, .ref ps, .ref pl])), (pn, .inr (0, [.int m1, .int b1, .int x1, .int f1])), (pk, .inr (1, [.ref sp, .int k1, .int k2, .int k3])), (pf, .inl (cI, 4096, .inl (zf fc))), (ps, .inl (cI, 4096, .inl (zf ns))), (pl, .inl (cI, 4096, .inl (zf li))), (sp, .inl (cB, 16384, .inl g1)), (x0, .inr (8, []))])
theorem k_LB_pack (l : Launch) (D : va_G) (cB cI cL : ClassId) (hl : l.stackTraces = false) (ax t rr sp ua pa pn pk pf ps pl qb n r : Nat) (m9 u1 u2 u3 u4 v1 v2 v3 : Int32) (fc0 ns0 li0 : Nat → Nat) (f g : Nat → Int32) (hn : n ≤ 16384) (hfc0 : ∀ j, fc0 j < 4096) (hns0 : ∀ j, ns0 j < 4096) (hli0 : ∀ j, li0 j < 256) (hby0 : ∀ j, vp_nar .byte (g j) = g j) : zx_K l zB D zcl (zt cB cI cL) y_LB_pack b_LB_pack 2 (some .int) [] 0 0 (zr 13 1 6) [.ref ax, .int m9] [(ax, .inr (4, [.ref t, .int (nI n), .ref rr, .ref sp, .int (nI r), .ref ua, .ref pa])), (t, .inl (cB, 16384, .inl f)), (pa, .inr (3, [.ref pn, .ref pk, .ref pf, .ref ps, .ref pl])), (pn, .inr (0, [.int u1, .int u2, .int u3, .int u4])), (pk, .inr (1, [.ref qb, .int v1, .int v2, .int v3])), (pf, .inl (cI, 4096, .inl (zf fc0))), (ps, .inl (cI, 4096, .inl (zf ns0))), (pl, .inl (cI, 4096, .inl (zf li0))), (sp, .inl (cB, 16384, .inl g))] (zp_pak ax t rr sp ua pa pn pk pf ps pl qb n r m9 u1 u2 u3 u4 v1 v2 v3 fc0 ns0 li0 f g cB cI) := by
  refine zx_K.mk (Nat.le_of_ble_eq_true rfl) (fun p e s mm below meth c9 C hr hlk ht hnm => ?_)
  refine sg_LB_pk0 C hr hlk hl ht (fun h x0 => Or.inl ⟨h, x0, rfl, rfl⟩) (fun h => ?_)
  obtain ⟨m, hm9, hm⟩ := zm_ok h
  subst hm9
  have hix : ¬ (zb (decide (0 < n ∧ ∀ j, j < n → zu (f j) < 2 ^ m))) = 0 → 0 < n ∧ ∀ j, j < n → zu (f j) < 2 ^ m := fun z => Classical.byContradiction fun y => z (zb_d.mpr y)
  exact sg_LB_pk4 C hm hn hfc0 hns0 hli0 hby0 hix hr hlk hl ht (fun c m1 b1 x1 f1 k1 k2 k3 fc ns li g1 hc => Or.inr (Or.inr (Or.inl ⟨_, m1, b1, x1, f1, k1, k2, k3, fc, ns, li, g1, ⟨m, ⟨rfl, hm⟩, hix c, rfl, hc⟩, rfl, rfl⟩))) (fun c m1 b1 x1 f1 k1 k2 k3 fc ns li g1 hc x0 => Or.inr (Or.inr (Or.inr ⟨m1, b1, x1, f1, k1, k2, k3, fc, ns, li, g1, ⟨m, ⟨rfl, hm⟩, hix c, hc⟩, x0, rfl, rfl⟩))) (fun c x0 => Or.inr (Or.inl ⟨⟨m, ⟨rfl, hm⟩, zb_d.mp c⟩, x0, rfl, rfl⟩))
set_option maxRecDepth 100000 in
set_option maxHeartbeats 4000000 in
theorem sg_LB_init {p : Program} {l : Launch} {e : Env} {s : State} {mi : MethodId} {args : Array Value} {below : List Frame} {meth : Method} {co : Code} {D : va_G} {cB cI cL : ClassId} {w0 : va_W} {kr nr : Nat} {post : Outcome → va_W → Prop} (C : zx_C p s mi args co b_LB_init 1 R_LB zB D zcl (zt cB cI cL) (va_A w0 s.heap.size)) {ax : Nat} (hr9 : meth.sig.returnType = none) (hlk9 : meth.locks = false) (hkr9 : 15 ≤ kr) (hnr9 : 69656 ≤ nr) (hnm9 : meth.name = "<init>") (r63 : ∀ q8 : Nat, ∀ q17 : Nat, ∀ q26 : Nat, ∀ q42 : Nat, ∀ na : Nat, ∀ sa : Nat, ∀ la : Nat, ∀ ia : Nat, ∀ q53 : Nat, ∀ pn : Nat, ∀ pk : Nat, ∀ qb : Nat, ∀ pf : Nat, ∀ ps : Nat, ∀ pl : Nat, post (.returned none) [(ax, .inr (4, [.ref q8, .int (0 : Int32), .ref q17, .ref q26, .int (0 : Int32), .ref q42, .ref q53])), (q8, .inl (cB, 16384, .inl (fun _ => 0))), (q17, .inl (cB, 16384, .inl (fun _ => 0))), (q26, .inl (cB, 16384, .inl (fun _ => 0))), (q42, .inr (2, [.ref na, .ref sa, .ref la, .ref ia, .int (0 : Int32), .int (0 : Int32), .int (0 : Int32)])), (na, .inr (0, [.int (0 : Int32), .int (0 : Int32), .int (0 : Int32), .int (0 : Int32)])), (sa, .inl (cI, 4096, .inl (zf (fun _ => 0)))), (la, .inl (cI, 4096, .inl (zf (fun _ => 0)))), (ia, .inl (cB, 0, .inl (fun _ => 0))), (q53, .inr (3, [.ref pn, .ref pk, .ref pf, .ref ps, .ref pl])), (pn, .inr (0, [.int (0 : Int32), .int (0 : Int32), .int (0 : Int32), .int (0 : Int32)])), (pk, .inr (1, [.ref qb, .int (0 : Int32), .int (0 : Int32), .int (0 : Int32)])), (qb, .inl (cB, 0, .inl (fun _ => 0))), (pf, .inl (cI, 4096, .inl (zf (fun _ => 0)))), (ps, .inl (cI, 4096, .inl (zf (fun _ => 0)))), (pl, .inl (cI, 4096, .inl (zf (fun _ => 0))))]) : zx_At p l e (zr 3 15 69656) s mi args below meth co (zx_Q below s D zcl w0 kr nr (zr 3 15 69656) post) D zcl (va_A w0 s.heap.size) 1 [(0, .ref ax)] [(ax, .inr (4, [.null, .int (0 : Int32), .null, .null, .int (0 : Int32), .null, .null]))] 0 0 0 [] := by
  refine zx_aload_n (pc := 0) C d_LB_init_0 rfl 0 rfl ?_
  refine zx_objInit (pc := 1) C zw_30 zw_31 zw_32 d_LB_init_1 (Nat.le_of_ble_eq_true rfl) (Nat.le_of_ble_eq_true rfl) ?_
  refine zx_aload_n (pc := 4) C d_LB_init_4 rfl 0 rfl ?_
  refine zx_sipush (pc := 5) C d_LB_init_5 (v := (16384 : Int32)) (by decide) ?_
  refine zx_newa (pc := 8) (ty := .byte) (N := 16384) (a0 := (16384, .inl (fun _ => 0))) C rfl (by simp) zw_62 0 rfl (fun _ => rfl) (by decide) (by decide) (by decide) (Nat.le_of_ble_eq_true rfl) (Nat.le_of_ble_eq_true rfl) d_LB_init_8 (fun q8 => ?_)
  show zx_At p l e (zr 3 15 69656) s mi args below meth co (zx_Q below s D zcl w0 kr nr (zr 3 15 69656) post) D zcl (va_A w0 s.heap.size) 1 [(0, .ref ax)] [(ax, .inr (4, [.null, .int (0 : Int32), .null, .null, .int (0 : Int32), .null, .null])), (q8, .inl (cB, 16384, .inl (fun _ => 0)))] 1 16384 10 [.ref q8, .ref ax]
  refine zx_putF (pc := 10) (ci := 4) (Cn := R_LB) (T := T_LB) (N := 7) (v := .ref q8) (ty := .array .byte) (ws' := [(ax, .inr (4, [.ref q8, .int (0 : Int32), .null, .null, .int (0 : Int32), .null, .null])), (q8, .inl (cB, 16384, .inl (fun _ => 0)))]) C zu_LB ty_LB tyk_LB nm_LB 0 rfl rfl 0 (by decide) zw_129 rfl rfl hnm9 rfl (by decide +kernel) rfl rfl (Nat.le_of_ble_eq_true rfl) rfl d_LB_init_10 ?_
  refine zx_aload_n (pc := 13) C d_LB_init_13 rfl 0 rfl ?_
  refine zx_sipush (pc := 14) C d_LB_init_14 (v := (16384 : Int32)) (by decide) ?_
  refine zx_newa (pc := 17) (ty := .byte) (N := 16384) (a0 := (16384, .inl (fun _ => 0))) C rfl (by simp) zw_62 0 rfl (fun _ => rfl) (by decide) (by decide) (by decide) (Nat.le_of_ble_eq_true rfl) (Nat.le_of_ble_eq_true rfl) d_LB_init_17 (fun q17 => ?_)
  show zx_At p l e (zr 3 15 69656) s mi args below meth co (zx_Q below s D zcl w0 kr nr (zr 3 15 69656) post) D zcl (va_A w0 s.heap.size) 1 [(0, .ref ax)] [(ax, .inr (4, [.ref q8, .int (0 : Int32), .null, .null, .int (0 : Int32), .null, .null])), (q8, .inl (cB, 16384, .inl (fun _ => 0))), (q17, .inl (cB, 16384, .inl (fun _ => 0)))] 2 32768 19 [.ref q17, .ref ax]
  refine zx_put (pc := 19) (ci := 4) (Cn := R_LB) (T := T_LB) (N := 7) (v := .ref q17) (ty := .array .byte) (ws' := [(ax, .inr (4, [.ref q8, .int (0 : Int32), .ref q17, .null, .int (0 : Int32), .null, .null])), (q8, .inl (cB, 16384, .inl (fun _ => 0))), (q17, .inl (cB, 16384, .inl (fun _ => 0)))]) C zu_LB ty_LB tyk_LB nm_LB 0 rfl rfl 2 (by decide) zw_131 rfl rfl (by decide +kernel) rfl rfl (Nat.le_of_ble_eq_true rfl) rfl d_LB_init_19 ?_
  refine zx_aload_n (pc := 22) C d_LB_init_22 rfl 0 rfl ?_
  refine zx_sipush (pc := 23) C d_LB_init_23 (v := (16384 : Int32)) (by decide) ?_
  refine zx_newa (pc := 26) (ty := .byte) (N := 16384) (a0 := (16384, .inl (fun _ => 0))) C rfl (by simp) zw_62 0 rfl (fun _ => rfl) (by decide) (by decide) (by decide) (Nat.le_of_ble_eq_true rfl) (Nat.le_of_ble_eq_true rfl) d_LB_init_26 (fun q26 => ?_)
  show zx_At p l e (zr 3 15 69656) s mi args below meth co (zx_Q below s D zcl w0 kr nr (zr 3 15 69656) post) D zcl (va_A w0 s.heap.size) 1 [(0, .ref ax)] [(ax, .inr (4, [.ref q8, .int (0 : Int32), .ref q17, .null, .int (0 : Int32), .null, .null])), (q8, .inl (cB, 16384, .inl (fun _ => 0))), (q17, .inl (cB, 16384, .inl (fun _ => 0))), (q26, .inl (cB, 16384, .inl (fun _ => 0)))] 3 49152 28 [.ref q26, .ref ax]
  refine zx_put (pc := 28) (ci := 4) (Cn := R_LB) (T := T_LB) (N := 7) (v := .ref q26) (ty := .array .byte) (ws' := [(ax, .inr (4, [.ref q8, .int (0 : Int32), .ref q17, .ref q26, .int (0 : Int32), .null, .null])), (q8, .inl (cB, 16384, .inl (fun _ => 0))), (q17, .inl (cB, 16384, .inl (fun _ => 0))), (q26, .inl (cB, 16384, .inl (fun _ => 0)))]) C zu_LB ty_LB tyk_LB nm_LB 0 rfl rfl 3 (by decide) zw_132 rfl rfl (by decide +kernel) rfl rfl (Nat.le_of_ble_eq_true rfl) rfl d_LB_init_28 ?_
  refine zx_aload_n (pc := 31) C d_LB_init_31 rfl 0 rfl ?_
  refine zx_iconst (pc := 32) C d_LB_init_32 (v := (0 : Int32)) (by decide) ?_
  refine zx_put (pc := 33) (ci := 4) (Cn := R_LB) (T := T_LB) (N := 7) (v := .int (0 : Int32)) (ty := .int) (ws' := [(ax, .inr (4, [.ref q8, .int (0 : Int32), .ref q17, .ref q26, .int (0 : Int32), .null, .null])), (q8, .inl (cB, 16384, .inl (fun _ => 0))), (q17, .inl (cB, 16384, .inl (fun _ => 0))), (q26, .inl (cB, 16384, .inl (fun _ => 0)))]) C zu_LB ty_LB tyk_LB nm_LB 0 rfl rfl 1 (by decide) zw_130 rfl rfl (by decide +kernel) rfl rfl (Nat.le_of_ble_eq_true rfl) rfl d_LB_init_33 ?_
  refine zx_aload_n (pc := 36) C d_LB_init_36 rfl 0 rfl ?_
  refine zx_iconst (pc := 37) C d_LB_init_37 (v := (0 : Int32)) (by decide) ?_
  refine zx_put (pc := 38) (ci := 4) (Cn := R_LB) (T := T_LB) (N := 7) (v := .int (0 : Int32)) (ty := .int) (ws' := [(ax, .inr (4, [.ref q8, .int (0 : Int32), .ref q17, .ref q26, .int (0 : Int32), .null, .null])), (q8, .inl (cB, 16384, .inl (fun _ => 0))), (q17, .inl (cB, 16384, .inl (fun _ => 0))), (q26, .inl (cB, 16384, .inl (fun _ => 0)))]) C zu_LB ty_LB tyk_LB nm_LB 0 rfl rfl 4 (by decide) zw_133 rfl rfl (by decide +kernel) rfl rfl (Nat.le_of_ble_eq_true rfl) rfl d_LB_init_38 ?_
  refine zx_aload_n (pc := 41) C d_LB_init_41 rfl 0 rfl ?_
  refine zx_new (pc := 42) (ci := 2) (Cn := R_UN) (T := T_UN) (N := 7) (fs := [.null, .null, .null, .null, .int (0 : Int32), .int (0 : Int32), .int (0 : Int32)]) C zu_UN ty_UN tyk_UN zw_33 zw_34 zw_2 rfl (zd_UN) (Nat.le_of_ble_eq_true rfl) (Nat.le_of_ble_eq_true rfl) d_LB_init_42 (fun q42 => ?_)
  show zx_At p l e (zr 3 15 69656) s mi args below meth co (zx_Q below s D zcl w0 kr nr (zr 3 15 69656) post) D zcl (va_A w0 s.heap.size) 1 [(0, .ref ax)] [(ax, .inr (4, [.ref q8, .int (0 : Int32), .ref q17, .ref q26, .int (0 : Int32), .null, .null])), (q8, .inl (cB, 16384, .inl (fun _ => 0))), (q17, .inl (cB, 16384, .inl (fun _ => 0))), (q26, .inl (cB, 16384, .inl (fun _ => 0))), (q42, .inr (2, [.null, .null, .null, .null, .int (0 : Int32), .int (0 : Int32), .int (0 : Int32)]))] 4 49159 45 [.ref q42, .ref ax]
  refine zx_dup (pc := 45) C d_LB_init_45 rfl ?_
  refine zx_callI (hs := []) (ret := none) (pc := 46) (ix := 28) (As := []) (b := q42) (wr := [(ax, .inr (4, [.ref q8, .int (0 : Int32), .ref q17, .ref q26, .int (0 : Int32), .null, .null])), (q8, .inl (cB, 16384, .inl (fun _ => 0))), (q17, .inl (cB, 16384, .inl (fun _ => 0))), (q26, .inl (cB, 16384, .inl (fun _ => 0)))]) (st := [.ref q42, .ref ax]) C (by decide +kernel) ⟨by decide +kernel, by decide +kernel⟩ zw_37 rfl zw_36 zw_35 rfl rfl (k_UN_init l D cB cI cL q42) rfl [4] [0, 1, 2, 3] rfl rfl (by decide) (by decide) (by decide) (Nat.le_of_ble_eq_true rfl) (Nat.le_of_ble_eq_true rfl) (Nat.le_of_ble_eq_true rfl) (Nat.le_of_ble_eq_true rfl) d_LB_init_46 (fun o w1 hp => ?_)
  obtain ⟨na, sa, la, ia, rfl, rfl⟩ := hp
  refine zx_rv (k2 := 8) (n2 := 57355) rfl rfl ?_
  refine zx_ws (ws' := [(ax, .inr (4, [.ref q8, .int (0 : Int32), .ref q17, .ref q26, .int (0 : Int32), .null, .null])), (q8, .inl (cB, 16384, .inl (fun _ => 0))), (q17, .inl (cB, 16384, .inl (fun _ => 0))), (q26, .inl (cB, 16384, .inl (fun _ => 0))), (q42, .inr (2, [.ref na, .ref sa, .ref la, .ref ia, .int (0 : Int32), .int (0 : Int32), .int (0 : Int32)])), (na, .inr (0, [.int (0 : Int32), .int (0 : Int32), .int (0 : Int32), .int (0 : Int32)])), (sa, .inl (cI, 4096, .inl (zf (fun _ => 0)))), (la, .inl (cI, 4096, .inl (zf (fun _ => 0)))), (ia, .inl (cB, 0, .inl (fun _ => 0)))]) [0, 1, 2, 3, 4, 5, 6, 7, 8] (by decide) rfl ?_
  refine zx_putF (pc := 49) (ci := 4) (Cn := R_LB) (T := T_LB) (N := 7) (v := .ref q42) (ty := .object "LzwBox$Unpacker") (ws' := [(ax, .inr (4, [.ref q8, .int (0 : Int32), .ref q17, .ref q26, .int (0 : Int32), .ref q42, .null])), (q8, .inl (cB, 16384, .inl (fun _ => 0))), (q17, .inl (cB, 16384, .inl (fun _ => 0))), (q26, .inl (cB, 16384, .inl (fun _ => 0))), (q42, .inr (2, [.ref na, .ref sa, .ref la, .ref ia, .int (0 : Int32), .int (0 : Int32), .int (0 : Int32)])), (na, .inr (0, [.int (0 : Int32), .int (0 : Int32), .int (0 : Int32), .int (0 : Int32)])), (sa, .inl (cI, 4096, .inl (zf (fun _ => 0)))), (la, .inl (cI, 4096, .inl (zf (fun _ => 0)))), (ia, .inl (cB, 0, .inl (fun _ => 0)))]) C zu_LB ty_LB tyk_LB nm_LB 0 rfl rfl 5 (by decide) zw_134 rfl rfl hnm9 rfl (by decide +kernel) rfl rfl (Nat.le_of_ble_eq_true rfl) rfl d_LB_init_49 ?_
  refine zx_aload_n (pc := 52) C d_LB_init_52 rfl 0 rfl ?_
  refine zx_new (pc := 53) (ci := 3) (Cn := R_PK) (T := T_PK) (N := 5) (fs := [.null, .null, .null, .null, .null]) C zu_PK ty_PK tyk_PK zw_86 zw_87 zw_4 rfl (zd_PK) (Nat.le_of_ble_eq_true rfl) (Nat.le_of_ble_eq_true rfl) d_LB_init_53 (fun q53 => ?_)
  show zx_At p l e (zr 3 15 69656) s mi args below meth co (zx_Q below s D zcl w0 kr nr (zr 3 15 69656) post) D zcl (va_A w0 s.heap.size) 1 [(0, .ref ax)] [(ax, .inr (4, [.ref q8, .int (0 : Int32), .ref q17, .ref q26, .int (0 : Int32), .ref q42, .null])), (q8, .inl (cB, 16384, .inl (fun _ => 0))), (q17, .inl (cB, 16384, .inl (fun _ => 0))), (q26, .inl (cB, 16384, .inl (fun _ => 0))), (q42, .inr (2, [.ref na, .ref sa, .ref la, .ref ia, .int (0 : Int32), .int (0 : Int32), .int (0 : Int32)])), (na, .inr (0, [.int (0 : Int32), .int (0 : Int32), .int (0 : Int32), .int (0 : Int32)])), (sa, .inl (cI, 4096, .inl (zf (fun _ => 0)))), (la, .inl (cI, 4096, .inl (zf (fun _ => 0)))), (ia, .inl (cB, 0, .inl (fun _ => 0))), (q53, .inr (3, [.null, .null, .null, .null, .null]))] 9 57360 56 [.ref q53, .ref ax]
  refine zx_dup (pc := 56) C d_LB_init_56 rfl ?_
  refine zx_callI (hs := []) (ret := none) (pc := 57) (ix := 35) (As := []) (b := q53) (wr := [(ax, .inr (4, [.ref q8, .int (0 : Int32), .ref q17, .ref q26, .int (0 : Int32), .ref q42, .null])), (q8, .inl (cB, 16384, .inl (fun _ => 0))), (q17, .inl (cB, 16384, .inl (fun _ => 0))), (q26, .inl (cB, 16384, .inl (fun _ => 0))), (q42, .inr (2, [.ref na, .ref sa, .ref la, .ref ia, .int (0 : Int32), .int (0 : Int32), .int (0 : Int32)])), (na, .inr (0, [.int (0 : Int32), .int (0 : Int32), .int (0 : Int32), .int (0 : Int32)])), (sa, .inl (cI, 4096, .inl (zf (fun _ => 0)))), (la, .inl (cI, 4096, .inl (zf (fun _ => 0)))), (ia, .inl (cB, 0, .inl (fun _ => 0)))]) (st := [.ref q53, .ref ax]) C (by decide +kernel) ⟨by decide +kernel, by decide +kernel⟩ zw_90 rfl zw_89 zw_88 rfl rfl (k_PK_init l D cB cI cL q53) rfl [9] [0, 1, 2, 3, 4, 5, 6, 7, 8] rfl rfl (by decide) (by decide) (by decide) (Nat.le_of_ble_eq_true rfl) (Nat.le_of_ble_eq_true rfl) (Nat.le_of_ble_eq_true rfl) (Nat.le_of_ble_eq_true rfl) d_LB_init_57 (fun o w1 hp => ?_)
  obtain ⟨pn, pk, qb, pf, ps, pl, rfl, rfl⟩ := hp
  refine zx_rv (k2 := 15) (n2 := 69656) rfl rfl ?_
  refine zx_ws (ws' := [(ax, .inr (4, [.ref q8, .int (0 : Int32), .ref q17, .ref q26, .int (0 : Int32), .ref q42, .null])), (q8, .inl (cB, 16384, .inl (fun _ => 0))), (q17, .inl (cB, 16384, .inl (fun _ => 0))), (q26, .inl (cB, 16384, .inl (fun _ => 0))), (q42, .inr (2, [.ref na, .ref sa, .ref la, .ref ia, .int (0 : Int32), .int (0 : Int32), .int (0 : Int32)])), (na, .inr (0, [.int (0 : Int32), .int (0 : Int32), .int (0 : Int32), .int (0 : Int32)])), (sa, .inl (cI, 4096, .inl (zf (fun _ => 0)))), (la, .inl (cI, 4096, .inl (zf (fun _ => 0)))), (ia, .inl (cB, 0, .inl (fun _ => 0))), (q53, .inr (3, [.ref pn, .ref pk, .ref pf, .ref ps, .ref pl])), (pn, .inr (0, [.int (0 : Int32), .int (0 : Int32), .int (0 : Int32), .int (0 : Int32)])), (pk, .inr (1, [.ref qb, .int (0 : Int32), .int (0 : Int32), .int (0 : Int32)])), (qb, .inl (cB, 0, .inl (fun _ => 0))), (pf, .inl (cI, 4096, .inl (zf (fun _ => 0)))), (ps, .inl (cI, 4096, .inl (zf (fun _ => 0)))), (pl, .inl (cI, 4096, .inl (zf (fun _ => 0))))]) [0, 1, 2, 3, 4, 5, 6, 7, 8, 9, 10, 11, 12, 13, 14, 15] (by decide) rfl ?_
  refine zx_putF (pc := 60) (ci := 4) (Cn := R_LB) (T := T_LB) (N := 7) (v := .ref q53) (ty := .object "LzwBox$Packer") (ws' := [(ax, .inr (4, [.ref q8, .int (0 : Int32), .ref q17, .ref q26, .int (0 : Int32), .ref q42, .ref q53])), (q8, .inl (cB, 16384, .inl (fun _ => 0))), (q17, .inl (cB, 16384, .inl (fun _ => 0))), (q26, .inl (cB, 16384, .inl (fun _ => 0))), (q42, .inr (2, [.ref na, .ref sa, .ref la, .ref ia, .int (0 : Int32), .int (0 : Int32), .int (0 : Int32)])), (na, .inr (0, [.int (0 : Int32), .int (0 : Int32), .int (0 : Int32), .int (0 : Int32)])), (sa, .inl (cI, 4096, .inl (zf (fun _ => 0)))), (la, .inl (cI, 4096, .inl (zf (fun _ => 0)))), (ia, .inl (cB, 0, .inl (fun _ => 0))), (q53, .inr (3, [.ref pn, .ref pk, .ref pf, .ref ps, .ref pl])), (pn, .inr (0, [.int (0 : Int32), .int (0 : Int32), .int (0 : Int32), .int (0 : Int32)])), (pk, .inr (1, [.ref qb, .int (0 : Int32), .int (0 : Int32), .int (0 : Int32)])), (qb, .inl (cB, 0, .inl (fun _ => 0))), (pf, .inl (cI, 4096, .inl (zf (fun _ => 0)))), (ps, .inl (cI, 4096, .inl (zf (fun _ => 0)))), (pl, .inl (cI, 4096, .inl (zf (fun _ => 0))))]) C zu_LB ty_LB tyk_LB nm_LB 0 rfl rfl 6 (by decide) zw_135 rfl rfl hnm9 rfl (by decide +kernel) rfl rfl (Nat.le_of_ble_eq_true rfl) rfl d_LB_init_60 ?_
  exact zx_vret (pc := 63) C hr9 hlk9 (Nat.le_trans (Nat.le_of_ble_eq_true rfl) hkr9) (Nat.le_trans (Nat.le_of_ble_eq_true rfl) hnr9) d_LB_init_63 (r63 q8 q17 q26 q42 na sa la ia q53 pn pk qb pf ps pl)

theorem k_LB_init (l : Launch) (D : va_G) (cB cI cL : ClassId) (ax : Nat) : zx_K l zB D zcl (zt cB cI cL) y_LB_init b_LB_init 1 (none) [] 15 69656 (zr 3 15 69656) [.ref ax] [(ax, .inr (4, [.null, .int (0 : Int32), .null, .null, .int (0 : Int32), .null, .null]))] (fun o w => ∃ t rr sp ua na sa la ia pa pn pk qb pf ps pl : Nat, o = .returned none ∧ w = [(ax, .inr (4, [.ref t, .int 0, .ref rr, .ref sp, .int 0, .ref ua, .ref pa])), (t, .inl (cB, 16384, .inl (fun _ => 0))), (rr, .inl (cB, 16384, .inl (fun _ => 0))), (sp, .inl (cB, 16384, .inl (fun _ => 0))), (ua, .inr (2, [.ref na, .ref sa, .ref la, .ref ia, .int 0, .int 0, .int 0])), (na, .inr (0, [.int 0, .int 0, .int 0, .int 0])), (sa, .inl (cI, 4096, .inl (zf (fun _ => 0)))), (la, .inl (cI, 4096, .inl (zf (fun _ => 0)))), (ia, .inl (cB, 0, .inl (fun _ => 0))), (pa, .inr (3, [.ref pn, .ref pk, .ref pf, .ref ps, .ref pl])), (pn, .inr (0, [.int 0, .int 0, .int 0, .int 0])), (pk, .inr (1, [.ref qb, .int 0, .int 0, .int 0])), (qb, .inl (cB, 0, .inl (fun _ => 0))), (pf, .inl (cI, 4096, .inl (zf (fun _ => 0)))), (ps, .inl (cI, 4096, .inl (zf (fun _ => 0)))), (pl, .inl (cI, 4096, .inl (zf (fun _ => 0))))]) := by
  refine zx_K.mk (Nat.le_of_ble_eq_true rfl) (fun p e s mm below meth c9 C hr hlk ht hnm => ?_)
  exact sg_LB_init C hr hlk (Nat.le_refl _) (Nat.le_refl _) hnm (fun t rr sp ua na sa la ia pa pn pk qb pf ps pl => ⟨t, rr, sp, ua, na, sa, la, ia, pa, pn, pk, qb, pf, ps, pl, rfl, rfl⟩)
end
section
theorem d_MO_init_0 : decode b_MO_init 0 = .ok (.aload_n 0, 1) := by decide +kernel
theorem d_MO_init_1 : decode b_MO_init 1 = .ok (.invokespecial 1, 3) := by decide +kernel
theorem d_MO_init_4 : decode b_MO_init 4 = .ok (.aload_n 0, 1) := by decide +kernel
theorem d_MO_init_5 : decode b_MO_init 5 = .ok (.sipush 16384, 3) := by decide +kernel
theorem d_MO_init_8 : decode b_MO_init 8 = .ok (.newarray .byte, 2) := by decide +kernel
theorem d_MO_init_10 : decode b_MO_init 10 = .ok (.putfield 7, 3) := by decide +kernel
theorem d_MO_init_13 : decode b_MO_init 13 = .ok (.aload_n 0, 1) := by decide +kernel
theorem d_MO_init_14 : decode b_MO_init 14 = .ok (.sipush 16384, 3) := by decide +kernel
theorem d_MO_init_17 : decode b_MO_init 17 = .ok (.newarray .byte, 2) := by decide +kernel
theorem d_MO_init_19 : decode b_MO_init 19 = .ok (.putfield 13, 3) := by decide +kernel
theorem d_MO_init_22 : decode b_MO_init 22 = .ok (.aload_n 0, 1) := by decide +kernel
theorem d_MO_init_23 : decode b_MO_init 23 = .ok (.sipush 16384, 3) := by decide +kernel
theorem d_MO_init_26 : decode b_MO_init 26 = .ok (.newarray .byte, 2) := by decide +kernel
theorem d_MO_init_28 : decode b_MO_init 28 = .ok (.putfield 16, 3) := by decide +kernel
theorem d_MO_init_31 : decode b_MO_init 31 = .ok (.aload_n 0, 1) := by decide +kernel
theorem d_MO_init_32 : decode b_MO_init 32 = .ok (.sipush 16384, 3) := by decide +kernel
theorem d_MO_init_35 : decode b_MO_init 35 = .ok (.newarray .byte, 2) := by decide +kernel
theorem d_MO_init_37 : decode b_MO_init 37 = .ok (.putfield 19, 3) := by decide +kernel
theorem d_MO_init_40 : decode b_MO_init 40 = .ok (.aload_n 0, 1) := by decide +kernel
theorem d_MO_init_41 : decode b_MO_init 41 = .ok (.ldc 22, 2) := by decide +kernel
theorem d_MO_init_43 : decode b_MO_init 43 = .ok (.newarray .byte, 2) := by decide +kernel
theorem d_MO_init_45 : decode b_MO_init 45 = .ok (.putfield 23, 3) := by decide +kernel
theorem d_MO_init_48 : decode b_MO_init 48 = .ok (.aload_n 0, 1) := by decide +kernel
theorem d_MO_init_49 : decode b_MO_init 49 = .ok (.sipush 4096, 3) := by decide +kernel
theorem d_MO_init_52 : decode b_MO_init 52 = .ok (.newarray .int, 2) := by decide +kernel
theorem d_MO_init_54 : decode b_MO_init 54 = .ok (.putfield 26, 3) := by decide +kernel
theorem d_MO_init_57 : decode b_MO_init 57 = .ok (.aload_n 0, 1) := by decide +kernel
theorem d_MO_init_58 : decode b_MO_init 58 = .ok (.sipush 4096, 3) := by decide +kernel
theorem d_MO_init_61 : decode b_MO_init 61 = .ok (.newarray .int, 2) := by decide +kernel
theorem d_MO_init_63 : decode b_MO_init 63 = .ok (.putfield 30, 3) := by decide +kernel
theorem d_MO_init_66 : decode b_MO_init 66 = .ok (.aload_n 0, 1) := by decide +kernel
theorem d_MO_init_67 : decode b_MO_init 67 = .ok (.sipush 4096, 3) := by decide +kernel
theorem d_MO_init_70 : decode b_MO_init 70 = .ok (.newarray .int, 2) := by decide +kernel
theorem d_MO_init_72 : decode b_MO_init 72 = .ok (.putfield 33, 3) := by decide +kernel
theorem d_MO_init_75 : decode b_MO_init 75 = .ok (.aload_n 0, 1) := by decide +kernel
theorem d_MO_init_76 : decode b_MO_init 76 = .ok (.ldc 36, 2) := by decide +kernel
theorem d_MO_init_78 : decode b_MO_init 78 = .ok (.newarray .int, 2) := by decide +kernel
theorem d_MO_init_80 : decode b_MO_init 80 = .ok (.putfield 37, 3) := by decide +kernel
theorem d_MO_init_83 : decode b_MO_init 83 = .ok (.return_, 1) := by decide +kernel
theorem d_MO_thrown_0 : decode b_MO_thrown 0 = .ok (.aload_n 0, 1) := by decide +kernel
theorem d_MO_thrown_1 : decode b_MO_thrown 1 = .ok (.getfield 40, 3) := by decide +kernel
theorem d_MO_thrown_4 : decode b_MO_thrown 4 = .ok (.ireturn, 1) := by decide +kernel
theorem d_MO_fail_0 : decode b_MO_fail 0 = .ok (.aload_n 0, 1) := by decide +kernel
theorem d_MO_fail_1 : decode b_MO_fail 1 = .ok (.iload_n 1, 1) := by decide +kernel
theorem d_MO_fail_2 : decode b_MO_fail 2 = .ok (.putfield 40, 3) := by decide +kernel
theorem d_MO_fail_5 : decode b_MO_fail 5 = .ok (.iconst 0, 1) := by decide +kernel
theorem d_MO_fail_6 : decode b_MO_fail 6 = .ok (.ireturn, 1) := by decide +kernel
theorem d_MO_can_0 : decode b_MO_can 0 = .ok (.iload_n 1, 1) := by decide +kernel
theorem d_MO_can_1 : decode b_MO_can 1 = .ok (.ifCond .ne 11, 3) := by decide +kernel
theorem d_MO_can_4 : decode b_MO_can 4 = .ok (.new 44, 3) := by decide +kernel
theorem d_MO_can_7 : decode b_MO_can 7 = .ok (.dup, 1) := by decide +kernel
theorem d_MO_can_8 : decode b_MO_can 8 = .ok (.invokespecial 46, 3) := by decide +kernel
theorem d_MO_can_11 : decode b_MO_can 11 = .ok (.athrow, 1) := by decide +kernel
theorem d_MO_can_12 : decode b_MO_can 12 = .ok (.return_, 1) := by decide +kernel
theorem d_MO_bits_0 : decode b_MO_bits 0 = .ok (.iconst 0, 1) := by decide +kernel
theorem d_MO_bits_1 : decode b_MO_bits 1 = .ok (.istore_n 2, 1) := by decide +kernel
theorem d_MO_bits_2 : decode b_MO_bits 2 = .ok (.iconst 0, 1) := by decide +kernel
theorem d_MO_bits_3 : decode b_MO_bits 3 = .ok (.istore_n 3, 1) := by decide +kernel
theorem d_MO_bits_4 : decode b_MO_bits 4 = .ok (.iload_n 3, 1) := by decide +kernel
theorem d_MO_bits_5 : decode b_MO_bits 5 = .ok (.iload_n 1, 1) := by decide +kernel
theorem d_MO_bits_6 : decode b_MO_bits 6 = .ok (.if_icmp .ge 68, 3) := by decide +kernel
theorem d_MO_bits_9 : decode b_MO_bits 9 = .ok (.aload_n 0, 1) := by decide +kernel
theorem d_MO_bits_10 : decode b_MO_bits 10 = .ok (.aload_n 0, 1) := by decide +kernel
theorem d_MO_bits_11 : decode b_MO_bits 11 = .ok (.getfield 47, 3) := by decide +kernel
theorem d_MO_bits_14 : decode b_MO_bits 14 = .ok (.bipush 8, 2) := by decide +kernel
theorem d_MO_bits_16 : decode b_MO_bits 16 = .ok (.aload_n 0, 1) := by decide +kernel
theorem d_MO_bits_17 : decode b_MO_bits 17 = .ok (.getfield 50, 3) := by decide +kernel
theorem d_MO_bits_20 : decode b_MO_bits 20 = .ok (.imul, 1) := by decide +kernel
theorem d_MO_bits_21 : decode b_MO_bits 21 = .ok (.if_icmp .ge 7, 3) := by decide +kernel
theorem d_MO_bits_24 : decode b_MO_bits 24 = .ok (.iconst 1, 1) := by decide +kernel
theorem d_MO_bits_25 : decode b_MO_bits 25 = .ok (.goto 4, 3) := by decide +kernel
theorem d_MO_bits_28 : decode b_MO_bits 28 = .ok (.iconst 0, 1) := by decide +kernel
theorem d_MO_bits_29 : decode b_MO_bits 29 = .ok (.invokevirtual 53, 3) := by decide +kernel
theorem d_MO_bits_32 : decode b_MO_bits 32 = .ok (.iload_n 2, 1) := by decide +kernel
theorem d_MO_bits_33 : decode b_MO_bits 33 = .ok (.aload_n 0, 1) := by decide +kernel
theorem d_MO_bits_34 : decode b_MO_bits 34 = .ok (.getfield 16, 3) := by decide +kernel
theorem d_MO_bits_37 : decode b_MO_bits 37 = .ok (.aload_n 0, 1) := by decide +kernel
theorem d_MO_bits_38 : decode b_MO_bits 38 = .ok (.getfield 47, 3) := by decide +kernel
theorem d_MO_bits_41 : decode b_MO_bits 41 = .ok (.iconst 3, 1) := by decide +kernel
theorem d_MO_bits_42 : decode b_MO_bits 42 = .ok (.ishr, 1) := by decide +kernel
theorem d_MO_bits_43 : decode b_MO_bits 43 = .ok (.baload, 1) := by decide +kernel
theorem d_MO_bits_44 : decode b_MO_bits 44 = .ok (.aload_n 0, 1) := by decide +kernel
theorem d_MO_bits_45 : decode b_MO_bits 45 = .ok (.getfield 47, 3) := by decide +kernel
theorem d_MO_bits_48 : decode b_MO_bits 48 = .ok (.bipush 7, 2) := by decide +kernel
theorem d_MO_bits_50 : decode b_MO_bits 50 = .ok (.iand, 1) := by decide +kernel
theorem d_MO_bits_51 : decode b_MO_bits 51 = .ok (.ishr, 1) := by decide +kernel
theorem d_MO_bits_52 : decode b_MO_bits 52 = .ok (.iconst 1, 1) := by decide +kernel
theorem d_MO_bits_53 : decode b_MO_bits 53 = .ok (.iand, 1) := by decide +kernel
theorem d_MO_bits_54 : decode b_MO_bits 54 = .ok (.iload_n 3, 1) := by decide +kernel
theorem d_MO_bits_55 : decode b_MO_bits 55 = .ok (.ishl, 1) := by decide +kernel
theorem d_MO_bits_56 : decode b_MO_bits 56 = .ok (.ior, 1) := by decide +kernel
theorem d_MO_bits_57 : decode b_MO_bits 57 = .ok (.istore_n 2, 1) := by decide +kernel
theorem d_MO_bits_58 : decode b_MO_bits 58 = .ok (.aload_n 0, 1) := by decide +kernel
theorem d_MO_bits_59 : decode b_MO_bits 59 = .ok (.dup, 1) := by decide +kernel
theorem d_MO_bits_60 : decode b_MO_bits 60 = .ok (.getfield 47, 3) := by decide +kernel
theorem d_MO_bits_63 : decode b_MO_bits 63 = .ok (.iconst 1, 1) := by decide +kernel
theorem d_MO_bits_64 : decode b_MO_bits 64 = .ok (.iadd, 1) := by decide +kernel
theorem d_MO_bits_65 : decode b_MO_bits 65 = .ok (.putfield 47, 3) := by decide +kernel
theorem d_MO_bits_68 : decode b_MO_bits 68 = .ok (.iinc 3 1, 3) := by decide +kernel
theorem d_MO_bits_71 : decode b_MO_bits 71 = .ok (.goto (-67), 3) := by decide +kernel
theorem d_MO_bits_74 : decode b_MO_bits 74 = .ok (.iload_n 2, 1) := by decide +kernel
theorem d_MO_bits_75 : decode b_MO_bits 75 = .ok (.ireturn, 1) := by decide +kernel
theorem d_MO_put_0 : decode b_MO_put 0 = .ok (.aload_n 0, 1) := by decide +kernel
theorem d_MO_put_1 : decode b_MO_put 1 = .ok (.getfield 57, 3) := by decide +kernel
theorem d_MO_put_4 : decode b_MO_put 4 = .ok (.ldc 22, 2) := by decide +kernel
theorem d_MO_put_6 : decode b_MO_put 6 = .ok (.if_icmp .ne 11, 3) := by decide +kernel
theorem d_MO_put_9 : decode b_MO_put 9 = .ok (.new 60, 3) := by decide +kernel
theorem d_MO_put_12 : decode b_MO_put 12 = .ok (.dup, 1) := by decide +kernel
theorem d_MO_put_13 : decode b_MO_put 13 = .ok (.invokespecial 62, 3) := by decide +kernel
theorem d_MO_put_16 : decode b_MO_put 16 = .ok (.athrow, 1) := by decide +kernel
theorem d_MO_put_17 : decode b_MO_put 17 = .ok (.aload_n 0, 1) := by decide +kernel
theorem d_MO_put_18 : decode b_MO_put 18 = .ok (.getfield 23, 3) := by decide +kernel
theorem d_MO_put_21 : decode b_MO_put 21 = .ok (.aload_n 0, 1) := by decide +kernel
theorem d_MO_put_22 : decode b_MO_put 22 = .ok (.getfield 57, 3) := by decide +kernel
theorem d_MO_put_25 : decode b_MO_put 25 = .ok (.iload_n 1, 1) := by decide +kernel
theorem d_MO_put_26 : decode b_MO_put 26 = .ok (.i2b, 1) := by decide +kernel
theorem d_MO_put_27 : decode b_MO_put 27 = .ok (.bastore, 1) := by decide +kernel
theorem d_MO_put_28 : decode b_MO_put 28 = .ok (.aload_n 0, 1) := by decide +kernel
theorem d_MO_put_29 : decode b_MO_put 29 = .ok (.dup, 1) := by decide +kernel
theorem d_MO_put_30 : decode b_MO_put 30 = .ok (.getfield 57, 3) := by decide +kernel
theorem d_MO_put_33 : decode b_MO_put 33 = .ok (.iconst 1, 1) := by decide +kernel
theorem d_MO_put_34 : decode b_MO_put 34 = .ok (.iadd, 1) := by decide +kernel
theorem d_MO_put_35 : decode b_MO_put 35 = .ok (.putfield 57, 3) := by decide +kernel
theorem d_MO_put_38 : decode b_MO_put 38 = .ok (.return_, 1) := by decide +kernel
theorem d_MO_firstOf_0 : decode b_MO_firstOf 0 = .ok (.iload_n 1, 1) := by decide +kernel
theorem d_MO_firstOf_1 : decode b_MO_firstOf 1 = .ok (.istore_n 2, 1) := by decide +kernel
theorem d_MO_firstOf_2 : decode b_MO_firstOf 2 = .ok (.aload_n 0, 1) := by decide +kernel
theorem d_MO_firstOf_3 : decode b_MO_firstOf 3 = .ok (.getfield 26, 3) := by decide +kernel
theorem d_MO_firstOf_6 : decode b_MO_firstOf 6 = .ok (.iload_n 2, 1) := by decide +kernel
theorem d_MO_firstOf_7 : decode b_MO_firstOf 7 = .ok (.iaload, 1) := by decide +kernel
theorem d_MO_firstOf_8 : decode b_MO_firstOf 8 = .ok (.ifCond .lt 13, 3) := by decide +kernel
theorem d_MO_firstOf_11 : decode b_MO_firstOf 11 = .ok (.aload_n 0, 1) := by decide +kernel
theorem d_MO_firstOf_12 : decode b_MO_firstOf 12 = .ok (.getfield 26, 3) := by decide +kernel
theorem d_MO_firstOf_15 : decode b_MO_firstOf 15 = .ok (.iload_n 2, 1) := by decide +kernel
theorem d_MO_firstOf_16 : decode b_MO_firstOf 16 = .ok (.iaload, 1) := by decide +kernel
theorem d_MO_firstOf_17 : decode b_MO_firstOf 17 = .ok (.istore_n 2, 1) := by decide +kernel
theorem d_MO_firstOf_18 : decode b_MO_firstOf 18 = .ok (.goto (-16), 3) := by decide +kernel
theorem d_MO_firstOf_21 : decode b_MO_firstOf 21 = .ok (.iload_n 2, 1) := by decide +kernel
theorem d_MO_firstOf_22 : decode b_MO_firstOf 22 = .ok (.ireturn, 1) := by decide +kernel
theorem d_MO_giveRow_0 : decode b_MO_giveRow 0 = .ok (.aload_n 0, 1) := by decide +kernel
theorem d_MO_giveRow_1 : decode b_MO_giveRow 1 = .ok (.getfield 33, 3) := by decide +kernel
theorem d_MO_giveRow_4 : decode b_MO_giveRow 4 = .ok (.iload_n 1, 1) := by decide +kernel
theorem d_MO_giveRow_5 : decode b_MO_giveRow 5 = .ok (.iaload, 1) := by decide +kernel
theorem d_MO_giveRow_6 : decode b_MO_giveRow 6 = .ok (.istore_n 2, 1) := by decide +kernel
theorem d_MO_giveRow_7 : decode b_MO_giveRow 7 = .ok (.aload_n 0, 1) := by decide +kernel
theorem d_MO_giveRow_8 : decode b_MO_giveRow 8 = .ok (.getfield 63, 3) := by decide +kernel
theorem d_MO_giveRow_11 : decode b_MO_giveRow 11 = .ok (.iload_n 2, 1) := by decide +kernel
theorem d_MO_giveRow_12 : decode b_MO_giveRow 12 = .ok (.iadd, 1) := by decide +kernel
theorem d_MO_giveRow_13 : decode b_MO_giveRow 13 = .ok (.sipush 16384, 3) := by decide +kernel
theorem d_MO_giveRow_16 : decode b_MO_giveRow 16 = .ok (.if_icmp .le 11, 3) := by decide +kernel
theorem d_MO_giveRow_19 : decode b_MO_giveRow 19 = .ok (.new 60, 3) := by decide +kernel
theorem d_MO_giveRow_22 : decode b_MO_giveRow 22 = .ok (.dup, 1) := by decide +kernel
theorem d_MO_giveRow_23 : decode b_MO_giveRow 23 = .ok (.invokespecial 62, 3) := by decide +kernel
theorem d_MO_giveRow_26 : decode b_MO_giveRow 26 = .ok (.athrow, 1) := by decide +kernel
theorem d_MO_giveRow_27 : decode b_MO_giveRow 27 = .ok (.iload_n 1, 1) := by decide +kernel
theorem d_MO_giveRow_28 : decode b_MO_giveRow 28 = .ok (.istore_n 3, 1) := by decide +kernel
theorem d_MO_giveRow_29 : decode b_MO_giveRow 29 = .ok (.iload_n 2, 1) := by decide +kernel
theorem d_MO_giveRow_30 : decode b_MO_giveRow 30 = .ok (.iconst 1, 1) := by decide +kernel
theorem d_MO_giveRow_31 : decode b_MO_giveRow 31 = .ok (.isub, 1) := by decide +kernel
theorem d_MO_giveRow_32 : decode b_MO_giveRow 32 = .ok (.istore 4, 2) := by decide +kernel
theorem d_MO_giveRow_34 : decode b_MO_giveRow 34 = .ok (.iload 4, 2) := by decide +kernel
theorem d_MO_giveRow_36 : decode b_MO_giveRow 36 = .ok (.ifCond .lt 35, 3) := by decide +kernel
theorem d_MO_giveRow_39 : decode b_MO_giveRow 39 = .ok (.aload_n 0, 1) := by decide +kernel
theorem d_MO_giveRow_40 : decode b_MO_giveRow 40 = .ok (.getfield 19, 3) := by decide +kernel
theorem d_MO_giveRow_43 : decode b_MO_giveRow 43 = .ok (.aload_n 0, 1) := by decide +kernel
theorem d_MO_giveRow_44 : decode b_MO_giveRow 44 = .ok (.getfield 63, 3) := by decide +kernel
theorem d_MO_giveRow_47 : decode b_MO_giveRow 47 = .ok (.iload 4, 2) := by decide +kernel
theorem d_MO_giveRow_49 : decode b_MO_giveRow 49 = .ok (.iadd, 1) := by decide +kernel
theorem d_MO_giveRow_50 : decode b_MO_giveRow 50 = .ok (.aload_n 0, 1) := by decide +kernel
theorem d_MO_giveRow_51 : decode b_MO_giveRow 51 = .ok (.getfield 30, 3) := by decide +kernel
theorem d_MO_giveRow_54 : decode b_MO_giveRow 54 = .ok (.iload_n 3, 1) := by decide +kernel
theorem d_MO_giveRow_55 : decode b_MO_giveRow 55 = .ok (.iaload, 1) := by decide +kernel
theorem d_MO_giveRow_56 : decode b_MO_giveRow 56 = .ok (.i2b, 1) := by decide +kernel
theorem d_MO_giveRow_57 : decode b_MO_giveRow 57 = .ok (.bastore, 1) := by decide +kernel
theorem d_MO_giveRow_58 : decode b_MO_giveRow 58 = .ok (.aload_n 0, 1) := by decide +kernel
theorem d_MO_giveRow_59 : decode b_MO_giveRow 59 = .ok (.getfield 26, 3) := by decide +kernel
theorem d_MO_giveRow_62 : decode b_MO_giveRow 62 = .ok (.iload_n 3, 1) := by decide +kernel
theorem d_MO_giveRow_63 : decode b_MO_giveRow 63 = .ok (.iaload, 1) := by decide +kernel
theorem d_MO_giveRow_64 : decode b_MO_giveRow 64 = .ok (.istore_n 3, 1) := by decide +kernel
theorem d_MO_giveRow_65 : decode b_MO_giveRow 65 = .ok (.iinc 4 (-1), 3) := by decide +kernel
theorem d_MO_giveRow_68 : decode b_MO_giveRow 68 = .ok (.goto (-34), 3) := by decide +kernel
theorem d_MO_giveRow_71 : decode b_MO_giveRow 71 = .ok (.aload_n 0, 1) := by decide +kernel
theorem d_MO_giveRow_72 : decode b_MO_giveRow 72 = .ok (.dup, 1) := by decide +kernel
theorem d_MO_giveRow_73 : decode b_MO_giveRow 73 = .ok (.getfield 63, 3) := by decide +kernel
theorem d_MO_giveRow_76 : decode b_MO_giveRow 76 = .ok (.iload_n 2, 1) := by decide +kernel
theorem d_MO_giveRow_77 : decode b_MO_giveRow 77 = .ok (.iadd, 1) := by decide +kernel
theorem d_MO_giveRow_78 : decode b_MO_giveRow 78 = .ok (.putfield 63, 3) := by decide +kernel
theorem d_MO_giveRow_81 : decode b_MO_giveRow 81 = .ok (.return_, 1) := by decide +kernel
theorem d_MO_unrows_0 : decode b_MO_unrows 0 = .ok (.iconst 1, 1) := by decide +kernel
theorem d_MO_unrows_1 : decode b_MO_unrows 1 = .ok (.iload_n 1, 1) := by decide +kernel
theorem d_MO_unrows_2 : decode b_MO_unrows 2 = .ok (.ishl, 1) := by decide +kernel
theorem d_MO_unrows_3 : decode b_MO_unrows 3 = .ok (.istore_n 2, 1) := by decide +kernel
theorem d_MO_unrows_4 : decode b_MO_unrows 4 = .ok (.iconst 0, 1) := by decide +kernel
theorem d_MO_unrows_5 : decode b_MO_unrows 5 = .ok (.istore_n 3, 1) := by decide +kernel
theorem d_MO_unrows_6 : decode b_MO_unrows 6 = .ok (.iload_n 3, 1) := by decide +kernel
theorem d_MO_unrows_7 : decode b_MO_unrows 7 = .ok (.iload_n 2, 1) := by decide +kernel
theorem d_MO_unrows_8 : decode b_MO_unrows 8 = .ok (.if_icmp .ge 30, 3) := by decide +kernel
theorem d_MO_unrows_11 : decode b_MO_unrows 11 = .ok (.aload_n 0, 1) := by decide +kernel
theorem d_MO_unrows_12 : decode b_MO_unrows 12 = .ok (.getfield 26, 3) := by decide +kernel
theorem d_MO_unrows_15 : decode b_MO_unrows 15 = .ok (.iload_n 3, 1) := by decide +kernel
theorem d_MO_unrows_16 : decode b_MO_unrows 16 = .ok (.iconst (-1), 1) := by decide +kernel
theorem d_MO_unrows_17 : decode b_MO_unrows 17 = .ok (.iastore, 1) := by decide +kernel
theorem d_MO_unrows_18 : decode b_MO_unrows 18 = .ok (.aload_n 0, 1) := by decide +kernel
theorem d_MO_unrows_19 : decode b_MO_unrows 19 = .ok (.getfield 30, 3) := by decide +kernel
theorem d_MO_unrows_22 : decode b_MO_unrows 22 = .ok (.iload_n 3, 1) := by decide +kernel
theorem d_MO_unrows_23 : decode b_MO_unrows 23 = .ok (.iload_n 3, 1) := by decide +kernel
theorem d_MO_unrows_24 : decode b_MO_unrows 24 = .ok (.iastore, 1) := by decide +kernel
theorem d_MO_unrows_25 : decode b_MO_unrows 25 = .ok (.aload_n 0, 1) := by decide +kernel
theorem d_MO_unrows_26 : decode b_MO_unrows 26 = .ok (.getfield 33, 3) := by decide +kernel
theorem d_MO_unrows_29 : decode b_MO_unrows 29 = .ok (.iload_n 3, 1) := by decide +kernel
theorem d_MO_unrows_30 : decode b_MO_unrows 30 = .ok (.iconst 1, 1) := by decide +kernel
theorem d_MO_unrows_31 : decode b_MO_unrows 31 = .ok (.iastore, 1) := by decide +kernel
theorem d_MO_unrows_32 : decode b_MO_unrows 32 = .ok (.iinc 3 1, 3) := by decide +kernel
theorem d_MO_unrows_35 : decode b_MO_unrows 35 = .ok (.goto (-29), 3) := by decide +kernel
theorem d_MO_unrows_38 : decode b_MO_unrows 38 = .ok (.iload_n 2, 1) := by decide +kernel
theorem d_MO_unrows_39 : decode b_MO_unrows 39 = .ok (.iconst 2, 1) := by decide +kernel
theorem d_MO_unrows_40 : decode b_MO_unrows 40 = .ok (.iadd, 1) := by decide +kernel
theorem d_MO_unrows_41 : decode b_MO_unrows 41 = .ok (.istore_n 3, 1) := by decide +kernel
theorem d_MO_unrows_42 : decode b_MO_unrows 42 = .ok (.iload_n 1, 1) := by decide +kernel
theorem d_MO_unrows_43 : decode b_MO_unrows 43 = .ok (.iconst 1, 1) := by decide +kernel
theorem d_MO_unrows_44 : decode b_MO_unrows 44 = .ok (.iadd, 1) := by decide +kernel
theorem d_MO_unrows_45 : decode b_MO_unrows 45 = .ok (.istore 4, 2) := by decide +kernel
theorem d_MO_unrows_47 : decode b_MO_unrows 47 = .ok (.iconst (-1), 1) := by decide +kernel
theorem d_MO_unrows_48 : decode b_MO_unrows 48 = .ok (.istore 5, 2) := by decide +kernel
theorem d_MO_unrows_50 : decode b_MO_unrows 50 = .ok (.aload_n 0, 1) := by decide +kernel
theorem d_MO_unrows_51 : decode b_MO_unrows 51 = .ok (.iconst 0, 1) := by decide +kernel
theorem d_MO_unrows_52 : decode b_MO_unrows 52 = .ok (.putfield 47, 3) := by decide +kernel
theorem d_MO_unrows_55 : decode b_MO_unrows 55 = .ok (.aload_n 0, 1) := by decide +kernel
theorem d_MO_unrows_56 : decode b_MO_unrows 56 = .ok (.iload 4, 2) := by decide +kernel
theorem d_MO_unrows_58 : decode b_MO_unrows 58 = .ok (.invokevirtual 66, 3) := by decide +kernel
theorem d_MO_unrows_61 : decode b_MO_unrows 61 = .ok (.istore 6, 2) := by decide +kernel
theorem d_MO_unrows_63 : decode b_MO_unrows 63 = .ok (.iload 6, 2) := by decide +kernel
theorem d_MO_unrows_65 : decode b_MO_unrows 65 = .ok (.iload_n 2, 1) := by decide +kernel
theorem d_MO_unrows_66 : decode b_MO_unrows 66 = .ok (.iconst 1, 1) := by decide +kernel
theorem d_MO_unrows_67 : decode b_MO_unrows 67 = .ok (.iadd, 1) := by decide +kernel
theorem d_MO_unrows_68 : decode b_MO_unrows 68 = .ok (.if_icmp .ne 4, 3) := by decide +kernel
theorem d_MO_unrows_71 : decode b_MO_unrows 71 = .ok (.return_, 1) := by decide +kernel
theorem d_MO_unrows_72 : decode b_MO_unrows 72 = .ok (.iload 6, 2) := by decide +kernel
theorem d_MO_unrows_74 : decode b_MO_unrows 74 = .ok (.iload_n 2, 1) := by decide +kernel
theorem d_MO_unrows_75 : decode b_MO_unrows 75 = .ok (.if_icmp .ne 18, 3) := by decide +kernel
theorem d_MO_unrows_78 : decode b_MO_unrows 78 = .ok (.iload_n 2, 1) := by decide +kernel
theorem d_MO_unrows_79 : decode b_MO_unrows 79 = .ok (.iconst 2, 1) := by decide +kernel
theorem d_MO_unrows_80 : decode b_MO_unrows 80 = .ok (.iadd, 1) := by decide +kernel
theorem d_MO_unrows_81 : decode b_MO_unrows 81 = .ok (.istore_n 3, 1) := by decide +kernel
theorem d_MO_unrows_82 : decode b_MO_unrows 82 = .ok (.iload_n 1, 1) := by decide +kernel
theorem d_MO_unrows_83 : decode b_MO_unrows 83 = .ok (.iconst 1, 1) := by decide +kernel
theorem d_MO_unrows_84 : decode b_MO_unrows 84 = .ok (.iadd, 1) := by decide +kernel
theorem d_MO_unrows_85 : decode b_MO_unrows 85 = .ok (.istore 4, 2) := by decide +kernel
theorem d_MO_unrows_87 : decode b_MO_unrows 87 = .ok (.iconst (-1), 1) := by decide +kernel
theorem d_MO_unrows_88 : decode b_MO_unrows 88 = .ok (.istore 5, 2) := by decide +kernel
theorem d_MO_unrows_90 : decode b_MO_unrows 90 = .ok (.goto (-35), 3) := by decide +kernel
theorem d_MO_unrows_93 : decode b_MO_unrows 93 = .ok (.iload 5, 2) := by decide +kernel
theorem d_MO_unrows_95 : decode b_MO_unrows 95 = .ok (.ifCond .ge 21, 3) := by decide +kernel
theorem d_MO_unrows_98 : decode b_MO_unrows 98 = .ok (.aload_n 0, 1) := by decide +kernel
theorem d_MO_unrows_99 : decode b_MO_unrows 99 = .ok (.iload 6, 2) := by decide +kernel
theorem d_MO_unrows_101 : decode b_MO_unrows 101 = .ok (.iload_n 2, 1) := by decide +kernel
theorem d_MO_unrows_102 : decode b_MO_unrows 102 = .ok (.if_icmp .ge 7, 3) := by decide +kernel
theorem d_MO_unrows_105 : decode b_MO_unrows 105 = .ok (.iconst 1, 1) := by decide +kernel
theorem d_MO_unrows_106 : decode b_MO_unrows 106 = .ok (.goto 4, 3) := by decide +kernel
theorem d_MO_unrows_109 : decode b_MO_unrows 109 = .ok (.iconst 0, 1) := by decide +kernel
theorem d_MO_unrows_110 : decode b_MO_unrows 110 = .ok (.invokevirtual 53, 3) := by decide +kernel
theorem d_MO_unrows_113 : decode b_MO_unrows 113 = .ok (.goto 87, 3) := by decide +kernel
theorem d_MO_unrows_116 : decode b_MO_unrows 116 = .ok (.aload_n 0, 1) := by decide +kernel
theorem d_MO_unrows_117 : decode b_MO_unrows 117 = .ok (.iload 6, 2) := by decide +kernel
theorem d_MO_unrows_119 : decode b_MO_unrows 119 = .ok (.iload_n 3, 1) := by decide +kernel
theorem d_MO_unrows_120 : decode b_MO_unrows 120 = .ok (.if_icmp .lt 16, 3) := by decide +kernel
theorem d_MO_unrows_123 : decode b_MO_unrows 123 = .ok (.iload 6, 2) := by decide +kernel
theorem d_MO_unrows_125 : decode b_MO_unrows 125 = .ok (.iload_n 3, 1) := by decide +kernel
theorem d_MO_unrows_126 : decode b_MO_unrows 126 = .ok (.if_icmp .ne 14, 3) := by decide +kernel
theorem d_MO_unrows_129 : decode b_MO_unrows 129 = .ok (.iload_n 3, 1) := by decide +kernel
theorem d_MO_unrows_130 : decode b_MO_unrows 130 = .ok (.sipush 4096, 3) := by decide +kernel
theorem d_MO_unrows_133 : decode b_MO_unrows 133 = .ok (.if_icmp .ge 7, 3) := by decide +kernel
theorem d_MO_unrows_136 : decode b_MO_unrows 136 = .ok (.iconst 1, 1) := by decide +kernel
theorem d_MO_unrows_137 : decode b_MO_unrows 137 = .ok (.goto 4, 3) := by decide +kernel
theorem d_MO_unrows_140 : decode b_MO_unrows 140 = .ok (.iconst 0, 1) := by decide +kernel
theorem d_MO_unrows_141 : decode b_MO_unrows 141 = .ok (.invokevirtual 53, 3) := by decide +kernel
theorem d_MO_unrows_144 : decode b_MO_unrows 144 = .ok (.iload_n 3, 1) := by decide +kernel
theorem d_MO_unrows_145 : decode b_MO_unrows 145 = .ok (.sipush 4096, 3) := by decide +kernel
theorem d_MO_unrows_148 : decode b_MO_unrows 148 = .ok (.if_icmp .ge 52, 3) := by decide +kernel
theorem d_MO_unrows_151 : decode b_MO_unrows 151 = .ok (.aload_n 0, 1) := by decide +kernel
theorem d_MO_unrows_152 : decode b_MO_unrows 152 = .ok (.getfield 26, 3) := by decide +kernel
theorem d_MO_unrows_155 : decode b_MO_unrows 155 = .ok (.iload_n 3, 1) := by decide +kernel
theorem d_MO_unrows_156 : decode b_MO_unrows 156 = .ok (.iload 5, 2) := by decide +kernel
theorem d_MO_unrows_158 : decode b_MO_unrows 158 = .ok (.iastore, 1) := by decide +kernel
theorem d_MO_unrows_159 : decode b_MO_unrows 159 = .ok (.aload_n 0, 1) := by decide +kernel
theorem d_MO_unrows_160 : decode b_MO_unrows 160 = .ok (.getfield 30, 3) := by decide +kernel
theorem d_MO_unrows_163 : decode b_MO_unrows 163 = .ok (.iload_n 3, 1) := by decide +kernel
theorem d_MO_unrows_164 : decode b_MO_unrows 164 = .ok (.aload_n 0, 1) := by decide +kernel
theorem d_MO_unrows_165 : decode b_MO_unrows 165 = .ok (.iload 6, 2) := by decide +kernel
theorem d_MO_unrows_167 : decode b_MO_unrows 167 = .ok (.iload_n 3, 1) := by decide +kernel
theorem d_MO_unrows_168 : decode b_MO_unrows 168 = .ok (.if_icmp .ne 8, 3) := by decide +kernel
theorem d_MO_unrows_171 : decode b_MO_unrows 171 = .ok (.iload 5, 2) := by decide +kernel
theorem d_MO_unrows_173 : decode b_MO_unrows 173 = .ok (.goto 5, 3) := by decide +kernel
theorem d_MO_unrows_176 : decode b_MO_unrows 176 = .ok (.iload 6, 2) := by decide +kernel
theorem d_MO_unrows_178 : decode b_MO_unrows 178 = .ok (.invokevirtual 70, 3) := by decide +kernel
theorem d_MO_unrows_181 : decode b_MO_unrows 181 = .ok (.iastore, 1) := by decide +kernel
theorem d_MO_unrows_182 : decode b_MO_unrows 182 = .ok (.aload_n 0, 1) := by decide +kernel
theorem d_MO_unrows_183 : decode b_MO_unrows 183 = .ok (.getfield 33, 3) := by decide +kernel
theorem d_MO_unrows_186 : decode b_MO_unrows 186 = .ok (.iload_n 3, 1) := by decide +kernel
theorem d_MO_unrows_187 : decode b_MO_unrows 187 = .ok (.aload_n 0, 1) := by decide +kernel
theorem d_MO_unrows_188 : decode b_MO_unrows 188 = .ok (.getfield 33, 3) := by decide +kernel
theorem d_MO_unrows_191 : decode b_MO_unrows 191 = .ok (.iload 5, 2) := by decide +kernel
theorem d_MO_unrows_193 : decode b_MO_unrows 193 = .ok (.iaload, 1) := by decide +kernel
theorem d_MO_unrows_194 : decode b_MO_unrows 194 = .ok (.iconst 1, 1) := by decide +kernel
theorem d_MO_unrows_195 : decode b_MO_unrows 195 = .ok (.iadd, 1) := by decide +kernel
theorem d_MO_unrows_196 : decode b_MO_unrows 196 = .ok (.iastore, 1) := by decide +kernel
theorem d_MO_unrows_197 : decode b_MO_unrows 197 = .ok (.iinc 3 1, 3) := by decide +kernel
theorem d_MO_unrows_200 : decode b_MO_unrows 200 = .ok (.aload_n 0, 1) := by decide +kernel
theorem d_MO_unrows_201 : decode b_MO_unrows 201 = .ok (.iload 6, 2) := by decide +kernel
theorem d_MO_unrows_203 : decode b_MO_unrows 203 = .ok (.invokevirtual 73, 3) := by decide +kernel
theorem d_MO_unrows_206 : decode b_MO_unrows 206 = .ok (.iload 6, 2) := by decide +kernel
theorem d_MO_unrows_208 : decode b_MO_unrows 208 = .ok (.istore 5, 2) := by decide +kernel
theorem d_MO_unrows_210 : decode b_MO_unrows 210 = .ok (.iload_n 3, 1) := by decide +kernel
theorem d_MO_unrows_211 : decode b_MO_unrows 211 = .ok (.iconst 1, 1) := by decide +kernel
theorem d_MO_unrows_212 : decode b_MO_unrows 212 = .ok (.iload 4, 2) := by decide +kernel
theorem d_MO_unrows_214 : decode b_MO_unrows 214 = .ok (.ishl, 1) := by decide +kernel
theorem d_MO_unrows_215 : decode b_MO_unrows 215 = .ok (.if_icmp .ne 13, 3) := by decide +kernel
theorem d_MO_unrows_218 : decode b_MO_unrows 218 = .ok (.iload 4, 2) := by decide +kernel
theorem d_MO_unrows_220 : decode b_MO_unrows 220 = .ok (.bipush 12, 2) := by decide +kernel
theorem d_MO_unrows_222 : decode b_MO_unrows 222 = .ok (.if_icmp .ge 6, 3) := by decide +kernel
theorem d_MO_unrows_225 : decode b_MO_unrows 225 = .ok (.iinc 4 1, 3) := by decide +kernel
theorem d_MO_unrows_228 : decode b_MO_unrows 228 = .ok (.goto (-173), 3) := by decide +kernel
theorem d_MO_putBits_0 : decode b_MO_putBits 0 = .ok (.iconst 0, 1) := by decide +kernel
theorem d_MO_putBits_1 : decode b_MO_putBits 1 = .ok (.istore_n 3, 1) := by decide +kernel
theorem d_MO_putBits_2 : decode b_MO_putBits 2 = .ok (.iload_n 3, 1) := by decide +kernel
theorem d_MO_putBits_3 : decode b_MO_putBits 3 = .ok (.iload_n 2, 1) := by decide +kernel
theorem d_MO_putBits_4 : decode b_MO_putBits 4 = .ok (.if_icmp .ge 51, 3) := by decide +kernel
theorem d_MO_putBits_7 : decode b_MO_putBits 7 = .ok (.aload_n 0, 1) := by decide +kernel
theorem d_MO_putBits_8 : decode b_MO_putBits 8 = .ok (.dup, 1) := by decide +kernel
theorem d_MO_putBits_9 : decode b_MO_putBits 9 = .ok (.getfield 77, 3) := by decide +kernel
theorem d_MO_putBits_12 : decode b_MO_putBits 12 = .ok (.iload_n 1, 1) := by decide +kernel
theorem d_MO_putBits_13 : decode b_MO_putBits 13 = .ok (.iload_n 3, 1) := by decide +kernel
theorem d_MO_putBits_14 : decode b_MO_putBits 14 = .ok (.ishr, 1) := by decide +kernel
theorem d_MO_putBits_15 : decode b_MO_putBits 15 = .ok (.iconst 1, 1) := by decide +kernel
theorem d_MO_putBits_16 : decode b_MO_putBits 16 = .ok (.iand, 1) := by decide +kernel
theorem d_MO_putBits_17 : decode b_MO_putBits 17 = .ok (.aload_n 0, 1) := by decide +kernel
theorem d_MO_putBits_18 : decode b_MO_putBits 18 = .ok (.getfield 80, 3) := by decide +kernel
theorem d_MO_putBits_21 : decode b_MO_putBits 21 = .ok (.ishl, 1) := by decide +kernel
theorem d_MO_putBits_22 : decode b_MO_putBits 22 = .ok (.ior, 1) := by decide +kernel
theorem d_MO_putBits_23 : decode b_MO_putBits 23 = .ok (.putfield 77, 3) := by decide +kernel
theorem d_MO_putBits_26 : decode b_MO_putBits 26 = .ok (.aload_n 0, 1) := by decide +kernel
theorem d_MO_putBits_27 : decode b_MO_putBits 27 = .ok (.dup, 1) := by decide +kernel
theorem d_MO_putBits_28 : decode b_MO_putBits 28 = .ok (.getfield 80, 3) := by decide +kernel
theorem d_MO_putBits_31 : decode b_MO_putBits 31 = .ok (.iconst 1, 1) := by decide +kernel
theorem d_MO_putBits_32 : decode b_MO_putBits 32 = .ok (.iadd, 1) := by decide +kernel
theorem d_MO_putBits_33 : decode b_MO_putBits 33 = .ok (.putfield 80, 3) := by decide +kernel
theorem d_MO_putBits_36 : decode b_MO_putBits 36 = .ok (.aload_n 0, 1) := by decide +kernel
theorem d_MO_putBits_37 : decode b_MO_putBits 37 = .ok (.getfield 80, 3) := by decide +kernel
theorem d_MO_putBits_40 : decode b_MO_putBits 40 = .ok (.bipush 8, 2) := by decide +kernel
theorem d_MO_putBits_42 : decode b_MO_putBits 42 = .ok (.if_icmp .ne 7, 3) := by decide +kernel
theorem d_MO_putBits_45 : decode b_MO_putBits 45 = .ok (.aload_n 0, 1) := by decide +kernel
theorem d_MO_putBits_46 : decode b_MO_putBits 46 = .ok (.invokevirtual 83, 3) := by decide +kernel
theorem d_MO_putBits_49 : decode b_MO_putBits 49 = .ok (.iinc 3 1, 3) := by decide +kernel
theorem d_MO_putBits_52 : decode b_MO_putBits 52 = .ok (.goto (-50), 3) := by decide +kernel
theorem d_MO_putBits_55 : decode b_MO_putBits 55 = .ok (.return_, 1) := by decide +kernel
theorem d_MO_flush_0 : decode b_MO_flush 0 = .ok (.aload_n 0, 1) := by decide +kernel
theorem d_MO_flush_1 : decode b_MO_flush 1 = .ok (.getfield 80, 3) := by decide +kernel
theorem d_MO_flush_4 : decode b_MO_flush 4 = .ok (.ifCond .ne 4, 3) := by decide +kernel
theorem d_MO_flush_7 : decode b_MO_flush 7 = .ok (.return_, 1) := by decide +kernel
theorem d_MO_flush_8 : decode b_MO_flush 8 = .ok (.aload_n 0, 1) := by decide +kernel
theorem d_MO_flush_9 : decode b_MO_flush 9 = .ok (.aload_n 0, 1) := by decide +kernel
theorem d_MO_flush_10 : decode b_MO_flush 10 = .ok (.getfield 77, 3) := by decide +kernel
theorem d_MO_flush_13 : decode b_MO_flush 13 = .ok (.invokevirtual 86, 3) := by decide +kernel
theorem d_MO_flush_16 : decode b_MO_flush 16 = .ok (.aload_n 0, 1) := by decide +kernel
theorem d_MO_flush_17 : decode b_MO_flush 17 = .ok (.iconst 0, 1) := by decide +kernel
theorem d_MO_flush_18 : decode b_MO_flush 18 = .ok (.putfield 77, 3) := by decide +kernel
theorem d_MO_flush_21 : decode b_MO_flush 21 = .ok (.aload_n 0, 1) := by decide +kernel
theorem d_MO_flush_22 : decode b_MO_flush 22 = .ok (.iconst 0, 1) := by decide +kernel
theorem d_MO_flush_23 : decode b_MO_flush 23 = .ok (.putfield 80, 3) := by decide +kernel
theorem d_MO_flush_26 : decode b_MO_flush 26 = .ok (.return_, 1) := by decide +kernel
theorem d_MO_begin_0 : decode b_MO_begin 0 = .ok (.aload_n 0, 1) := by decide +kernel
theorem d_MO_begin_1 : decode b_MO_begin 1 = .ok (.iload_n 1, 1) := by decide +kernel
theorem d_MO_begin_2 : decode b_MO_begin 2 = .ok (.iconst 1, 1) := by decide +kernel
theorem d_MO_begin_3 : decode b_MO_begin 3 = .ok (.iadd, 1) := by decide +kernel
theorem d_MO_begin_4 : decode b_MO_begin 4 = .ok (.putfield 89, 3) := by decide +kernel
theorem d_MO_begin_7 : decode b_MO_begin 7 = .ok (.aload_n 0, 1) := by decide +kernel
theorem d_MO_begin_8 : decode b_MO_begin 8 = .ok (.iconst 1, 1) := by decide +kernel
theorem d_MO_begin_9 : decode b_MO_begin 9 = .ok (.iload_n 1, 1) := by decide +kernel
theorem d_MO_begin_10 : decode b_MO_begin 10 = .ok (.ishl, 1) := by decide +kernel
theorem d_MO_begin_11 : decode b_MO_begin 11 = .ok (.iconst 2, 1) := by decide +kernel
theorem d_MO_begin_12 : decode b_MO_begin 12 = .ok (.iadd, 1) := by decide +kernel
theorem d_MO_begin_13 : decode b_MO_begin 13 = .ok (.putfield 92, 3) := by decide +kernel
theorem d_MO_begin_16 : decode b_MO_begin 16 = .ok (.aload_n 0, 1) := by decide +kernel
theorem d_MO_begin_17 : decode b_MO_begin 17 = .ok (.iconst 1, 1) := by decide +kernel
theorem d_MO_begin_18 : decode b_MO_begin 18 = .ok (.putfield 95, 3) := by decide +kernel
theorem d_MO_begin_21 : decode b_MO_begin 21 = .ok (.return_, 1) := by decide +kernel
theorem d_MO_emit_0 : decode b_MO_emit 0 = .ok (.aload_n 0, 1) := by decide +kernel
theorem d_MO_emit_1 : decode b_MO_emit 1 = .ok (.iload_n 1, 1) := by decide +kernel
theorem d_MO_emit_2 : decode b_MO_emit 2 = .ok (.aload_n 0, 1) := by decide +kernel
theorem d_MO_emit_3 : decode b_MO_emit 3 = .ok (.getfield 89, 3) := by decide +kernel
theorem d_MO_emit_6 : decode b_MO_emit 6 = .ok (.invokevirtual 99, 3) := by decide +kernel
theorem d_MO_emit_9 : decode b_MO_emit 9 = .ok (.aload_n 0, 1) := by decide +kernel
theorem d_MO_emit_10 : decode b_MO_emit 10 = .ok (.getfield 95, 3) := by decide +kernel
theorem d_MO_emit_13 : decode b_MO_emit 13 = .ok (.ifCond .ne 23, 3) := by decide +kernel
theorem d_MO_emit_16 : decode b_MO_emit 16 = .ok (.aload_n 0, 1) := by decide +kernel
theorem d_MO_emit_17 : decode b_MO_emit 17 = .ok (.getfield 92, 3) := by decide +kernel
theorem d_MO_emit_20 : decode b_MO_emit 20 = .ok (.sipush 4096, 3) := by decide +kernel
theorem d_MO_emit_23 : decode b_MO_emit 23 = .ok (.if_icmp .ge 13, 3) := by decide +kernel
theorem d_MO_emit_26 : decode b_MO_emit 26 = .ok (.aload_n 0, 1) := by decide +kernel
theorem d_MO_emit_27 : decode b_MO_emit 27 = .ok (.dup, 1) := by decide +kernel
theorem d_MO_emit_28 : decode b_MO_emit 28 = .ok (.getfield 92, 3) := by decide +kernel
theorem d_MO_emit_31 : decode b_MO_emit 31 = .ok (.iconst 1, 1) := by decide +kernel
theorem d_MO_emit_32 : decode b_MO_emit 32 = .ok (.iadd, 1) := by decide +kernel
theorem d_MO_emit_33 : decode b_MO_emit 33 = .ok (.putfield 92, 3) := by decide +kernel
theorem d_MO_emit_36 : decode b_MO_emit 36 = .ok (.aload_n 0, 1) := by decide +kernel
theorem d_MO_emit_37 : decode b_MO_emit 37 = .ok (.iconst 0, 1) := by decide +kernel
theorem d_MO_emit_38 : decode b_MO_emit 38 = .ok (.putfield 95, 3) := by decide +kernel
theorem d_MO_emit_41 : decode b_MO_emit 41 = .ok (.aload_n 0, 1) := by decide +kernel
theorem d_MO_emit_42 : decode b_MO_emit 42 = .ok (.getfield 92, 3) := by decide +kernel
theorem d_MO_emit_45 : decode b_MO_emit 45 = .ok (.iconst 1, 1) := by decide +kernel
theorem d_MO_emit_46 : decode b_MO_emit 46 = .ok (.aload_n 0, 1) := by decide +kernel
theorem d_MO_emit_47 : decode b_MO_emit 47 = .ok (.getfield 89, 3) := by decide +kernel
theorem d_MO_emit_50 : decode b_MO_emit 50 = .ok (.ishl, 1) := by decide +kernel
theorem d_MO_emit_51 : decode b_MO_emit 51 = .ok (.if_icmp .ne 22, 3) := by decide +kernel
theorem d_MO_emit_54 : decode b_MO_emit 54 = .ok (.aload_n 0, 1) := by decide +kernel
theorem d_MO_emit_55 : decode b_MO_emit 55 = .ok (.getfield 89, 3) := by decide +kernel
theorem d_MO_emit_58 : decode b_MO_emit 58 = .ok (.bipush 12, 2) := by decide +kernel
theorem d_MO_emit_60 : decode b_MO_emit 60 = .ok (.if_icmp .ge 13, 3) := by decide +kernel
theorem d_MO_emit_63 : decode b_MO_emit 63 = .ok (.aload_n 0, 1) := by decide +kernel
theorem d_MO_emit_64 : decode b_MO_emit 64 = .ok (.dup, 1) := by decide +kernel
theorem d_MO_emit_65 : decode b_MO_emit 65 = .ok (.getfield 89, 3) := by decide +kernel
theorem d_MO_emit_68 : decode b_MO_emit 68 = .ok (.iconst 1, 1) := by decide +kernel
theorem d_MO_emit_69 : decode b_MO_emit 69 = .ok (.iadd, 1) := by decide +kernel
theorem d_MO_emit_70 : decode b_MO_emit 70 = .ok (.putfield 89, 3) := by decide +kernel
theorem d_MO_emit_73 : decode b_MO_emit 73 = .ok (.return_, 1) := by decide +kernel
theorem d_MO_pack2_0 : decode b_MO_pack2 0 = .ok (.aload_n 0, 1) := by decide +kernel
theorem d_MO_pack2_1 : decode b_MO_pack2 1 = .ok (.iconst 0, 1) := by decide +kernel
theorem d_MO_pack2_2 : decode b_MO_pack2 2 = .ok (.putfield 77, 3) := by decide +kernel
theorem d_MO_pack2_5 : decode b_MO_pack2 5 = .ok (.aload_n 0, 1) := by decide +kernel
theorem d_MO_pack2_6 : decode b_MO_pack2 6 = .ok (.iconst 0, 1) := by decide +kernel
theorem d_MO_pack2_7 : decode b_MO_pack2 7 = .ok (.putfield 80, 3) := by decide +kernel
theorem d_MO_pack2_10 : decode b_MO_pack2 10 = .ok (.iconst 1, 1) := by decide +kernel
theorem d_MO_pack2_11 : decode b_MO_pack2 11 = .ok (.iload_n 1, 1) := by decide +kernel
theorem d_MO_pack2_12 : decode b_MO_pack2 12 = .ok (.ishl, 1) := by decide +kernel
theorem d_MO_pack2_13 : decode b_MO_pack2 13 = .ok (.istore_n 3, 1) := by decide +kernel
theorem d_MO_pack2_14 : decode b_MO_pack2 14 = .ok (.aload_n 0, 1) := by decide +kernel
theorem d_MO_pack2_15 : decode b_MO_pack2 15 = .ok (.iload_n 1, 1) := by decide +kernel
theorem d_MO_pack2_16 : decode b_MO_pack2 16 = .ok (.invokevirtual 103, 3) := by decide +kernel
theorem d_MO_pack2_19 : decode b_MO_pack2 19 = .ok (.aload_n 0, 1) := by decide +kernel
theorem d_MO_pack2_20 : decode b_MO_pack2 20 = .ok (.iload_n 3, 1) := by decide +kernel
theorem d_MO_pack2_21 : decode b_MO_pack2 21 = .ok (.aload_n 0, 1) := by decide +kernel
theorem d_MO_pack2_22 : decode b_MO_pack2 22 = .ok (.getfield 89, 3) := by decide +kernel
theorem d_MO_pack2_25 : decode b_MO_pack2 25 = .ok (.invokevirtual 99, 3) := by decide +kernel
theorem d_MO_pack2_28 : decode b_MO_pack2 28 = .ok (.iconst 0, 1) := by decide +kernel
theorem d_MO_pack2_29 : decode b_MO_pack2 29 = .ok (.istore 4, 2) := by decide +kernel
theorem d_MO_pack2_31 : decode b_MO_pack2 31 = .ok (.iload 4, 2) := by decide +kernel
theorem d_MO_pack2_33 : decode b_MO_pack2 33 = .ok (.ldc 36, 2) := by decide +kernel
theorem d_MO_pack2_35 : decode b_MO_pack2 35 = .ok (.if_icmp .ge 17, 3) := by decide +kernel
theorem d_MO_pack2_38 : decode b_MO_pack2 38 = .ok (.aload_n 0, 1) := by decide +kernel
theorem d_MO_pack2_39 : decode b_MO_pack2 39 = .ok (.getfield 37, 3) := by decide +kernel
theorem d_MO_pack2_42 : decode b_MO_pack2 42 = .ok (.iload 4, 2) := by decide +kernel
theorem d_MO_pack2_44 : decode b_MO_pack2 44 = .ok (.iconst 0, 1) := by decide +kernel
theorem d_MO_pack2_45 : decode b_MO_pack2 45 = .ok (.iastore, 1) := by decide +kernel
theorem d_MO_pack2_46 : decode b_MO_pack2 46 = .ok (.iinc 4 1, 3) := by decide +kernel
theorem d_MO_pack2_49 : decode b_MO_pack2 49 = .ok (.goto (-18), 3) := by decide +kernel
theorem d_MO_pack2_52 : decode b_MO_pack2 52 = .ok (.iload_n 3, 1) := by decide +kernel
theorem d_MO_pack2_53 : decode b_MO_pack2 53 = .ok (.iconst 2, 1) := by decide +kernel
theorem d_MO_pack2_54 : decode b_MO_pack2 54 = .ok (.iadd, 1) := by decide +kernel
theorem d_MO_pack2_55 : decode b_MO_pack2 55 = .ok (.istore 4, 2) := by decide +kernel
theorem d_MO_pack2_57 : decode b_MO_pack2 57 = .ok (.aload_n 0, 1) := by decide +kernel
theorem d_MO_pack2_58 : decode b_MO_pack2 58 = .ok (.getfield 19, 3) := by decide +kernel
theorem d_MO_pack2_61 : decode b_MO_pack2 61 = .ok (.iconst 0, 1) := by decide +kernel
theorem d_MO_pack2_62 : decode b_MO_pack2 62 = .ok (.baload, 1) := by decide +kernel
theorem d_MO_pack2_63 : decode b_MO_pack2 63 = .ok (.sipush 255, 3) := by decide +kernel
theorem d_MO_pack2_66 : decode b_MO_pack2 66 = .ok (.iand, 1) := by decide +kernel
theorem d_MO_pack2_67 : decode b_MO_pack2 67 = .ok (.istore 5, 2) := by decide +kernel
theorem d_MO_pack2_69 : decode b_MO_pack2 69 = .ok (.iconst 0, 1) := by decide +kernel
theorem d_MO_pack2_70 : decode b_MO_pack2 70 = .ok (.istore 6, 2) := by decide +kernel
theorem d_MO_pack2_72 : decode b_MO_pack2 72 = .ok (.iconst 1, 1) := by decide +kernel
theorem d_MO_pack2_73 : decode b_MO_pack2 73 = .ok (.istore 7, 2) := by decide +kernel
theorem d_MO_pack2_75 : decode b_MO_pack2 75 = .ok (.iload 7, 2) := by decide +kernel
theorem d_MO_pack2_77 : decode b_MO_pack2 77 = .ok (.iload_n 2, 1) := by decide +kernel
theorem d_MO_pack2_78 : decode b_MO_pack2 78 = .ok (.if_icmp .ge 156, 3) := by decide +kernel
theorem d_MO_pack2_81 : decode b_MO_pack2 81 = .ok (.aload_n 0, 1) := by decide +kernel
theorem d_MO_pack2_82 : decode b_MO_pack2 82 = .ok (.getfield 19, 3) := by decide +kernel
theorem d_MO_pack2_85 : decode b_MO_pack2 85 = .ok (.iload 7, 2) := by decide +kernel
theorem d_MO_pack2_87 : decode b_MO_pack2 87 = .ok (.baload, 1) := by decide +kernel
theorem d_MO_pack2_88 : decode b_MO_pack2 88 = .ok (.sipush 255, 3) := by decide +kernel
theorem d_MO_pack2_91 : decode b_MO_pack2 91 = .ok (.iand, 1) := by decide +kernel
theorem d_MO_pack2_92 : decode b_MO_pack2 92 = .ok (.istore 8, 2) := by decide +kernel
theorem d_MO_pack2_94 : decode b_MO_pack2 94 = .ok (.aload_n 0, 1) := by decide +kernel
theorem d_MO_pack2_95 : decode b_MO_pack2 95 = .ok (.getfield 37, 3) := by decide +kernel
theorem d_MO_pack2_98 : decode b_MO_pack2 98 = .ok (.sipush 256, 3) := by decide +kernel
theorem d_MO_pack2_101 : decode b_MO_pack2 101 = .ok (.iload 5, 2) := by decide +kernel
theorem d_MO_pack2_103 : decode b_MO_pack2 103 = .ok (.imul, 1) := by decide +kernel
theorem d_MO_pack2_104 : decode b_MO_pack2 104 = .ok (.iload 8, 2) := by decide +kernel
theorem d_MO_pack2_106 : decode b_MO_pack2 106 = .ok (.iadd, 1) := by decide +kernel
theorem d_MO_pack2_107 : decode b_MO_pack2 107 = .ok (.iaload, 1) := by decide +kernel
theorem d_MO_pack2_108 : decode b_MO_pack2 108 = .ok (.ifCond .eq 22, 3) := by decide +kernel
theorem d_MO_pack2_111 : decode b_MO_pack2 111 = .ok (.aload_n 0, 1) := by decide +kernel
theorem d_MO_pack2_112 : decode b_MO_pack2 112 = .ok (.getfield 37, 3) := by decide +kernel
theorem d_MO_pack2_115 : decode b_MO_pack2 115 = .ok (.sipush 256, 3) := by decide +kernel
theorem d_MO_pack2_118 : decode b_MO_pack2 118 = .ok (.iload 5, 2) := by decide +kernel
theorem d_MO_pack2_120 : decode b_MO_pack2 120 = .ok (.imul, 1) := by decide +kernel
theorem d_MO_pack2_121 : decode b_MO_pack2 121 = .ok (.iload 8, 2) := by decide +kernel
theorem d_MO_pack2_123 : decode b_MO_pack2 123 = .ok (.iadd, 1) := by decide +kernel
theorem d_MO_pack2_124 : decode b_MO_pack2 124 = .ok (.iaload, 1) := by decide +kernel
theorem d_MO_pack2_125 : decode b_MO_pack2 125 = .ok (.istore 5, 2) := by decide +kernel
theorem d_MO_pack2_127 : decode b_MO_pack2 127 = .ok (.goto 101, 3) := by decide +kernel
theorem d_MO_pack2_130 : decode b_MO_pack2 130 = .ok (.aload_n 0, 1) := by decide +kernel
theorem d_MO_pack2_131 : decode b_MO_pack2 131 = .ok (.iload 5, 2) := by decide +kernel
theorem d_MO_pack2_133 : decode b_MO_pack2 133 = .ok (.invokevirtual 106, 3) := by decide +kernel
theorem d_MO_pack2_136 : decode b_MO_pack2 136 = .ok (.iload 6, 2) := by decide +kernel
theorem d_MO_pack2_138 : decode b_MO_pack2 138 = .ok (.ifCond .eq 52, 3) := by decide +kernel
theorem d_MO_pack2_141 : decode b_MO_pack2 141 = .ok (.aload_n 0, 1) := by decide +kernel
theorem d_MO_pack2_142 : decode b_MO_pack2 142 = .ok (.iload_n 3, 1) := by decide +kernel
theorem d_MO_pack2_143 : decode b_MO_pack2 143 = .ok (.aload_n 0, 1) := by decide +kernel
theorem d_MO_pack2_144 : decode b_MO_pack2 144 = .ok (.getfield 89, 3) := by decide +kernel
theorem d_MO_pack2_147 : decode b_MO_pack2 147 = .ok (.invokevirtual 99, 3) := by decide +kernel
theorem d_MO_pack2_150 : decode b_MO_pack2 150 = .ok (.aload_n 0, 1) := by decide +kernel
theorem d_MO_pack2_151 : decode b_MO_pack2 151 = .ok (.iload_n 1, 1) := by decide +kernel
theorem d_MO_pack2_152 : decode b_MO_pack2 152 = .ok (.invokevirtual 103, 3) := by decide +kernel
theorem d_MO_pack2_155 : decode b_MO_pack2 155 = .ok (.iconst 0, 1) := by decide +kernel
theorem d_MO_pack2_156 : decode b_MO_pack2 156 = .ok (.istore 9, 2) := by decide +kernel
theorem d_MO_pack2_158 : decode b_MO_pack2 158 = .ok (.iload 9, 2) := by decide +kernel
theorem d_MO_pack2_160 : decode b_MO_pack2 160 = .ok (.ldc 36, 2) := by decide +kernel
theorem d_MO_pack2_162 : decode b_MO_pack2 162 = .ok (.if_icmp .ge 17, 3) := by decide +kernel
theorem d_MO_pack2_165 : decode b_MO_pack2 165 = .ok (.aload_n 0, 1) := by decide +kernel
theorem d_MO_pack2_166 : decode b_MO_pack2 166 = .ok (.getfield 37, 3) := by decide +kernel
theorem d_MO_pack2_169 : decode b_MO_pack2 169 = .ok (.iload 9, 2) := by decide +kernel
theorem d_MO_pack2_171 : decode b_MO_pack2 171 = .ok (.iconst 0, 1) := by decide +kernel
theorem d_MO_pack2_172 : decode b_MO_pack2 172 = .ok (.iastore, 1) := by decide +kernel
theorem d_MO_pack2_173 : decode b_MO_pack2 173 = .ok (.iinc 9 1, 3) := by decide +kernel
theorem d_MO_pack2_176 : decode b_MO_pack2 176 = .ok (.goto (-18), 3) := by decide +kernel
theorem d_MO_pack2_179 : decode b_MO_pack2 179 = .ok (.iload_n 3, 1) := by decide +kernel
theorem d_MO_pack2_180 : decode b_MO_pack2 180 = .ok (.iconst 2, 1) := by decide +kernel
theorem d_MO_pack2_181 : decode b_MO_pack2 181 = .ok (.iadd, 1) := by decide +kernel
theorem d_MO_pack2_182 : decode b_MO_pack2 182 = .ok (.istore 4, 2) := by decide +kernel
theorem d_MO_pack2_184 : decode b_MO_pack2 184 = .ok (.iconst 0, 1) := by decide +kernel
theorem d_MO_pack2_185 : decode b_MO_pack2 185 = .ok (.istore 6, 2) := by decide +kernel
theorem d_MO_pack2_187 : decode b_MO_pack2 187 = .ok (.goto 37, 3) := by decide +kernel
theorem d_MO_pack2_190 : decode b_MO_pack2 190 = .ok (.aload_n 0, 1) := by decide +kernel
theorem d_MO_pack2_191 : decode b_MO_pack2 191 = .ok (.getfield 37, 3) := by decide +kernel
theorem d_MO_pack2_194 : decode b_MO_pack2 194 = .ok (.sipush 256, 3) := by decide +kernel
theorem d_MO_pack2_197 : decode b_MO_pack2 197 = .ok (.iload 5, 2) := by decide +kernel
theorem d_MO_pack2_199 : decode b_MO_pack2 199 = .ok (.imul, 1) := by decide +kernel
theorem d_MO_pack2_200 : decode b_MO_pack2 200 = .ok (.iload 8, 2) := by decide +kernel
theorem d_MO_pack2_202 : decode b_MO_pack2 202 = .ok (.iadd, 1) := by decide +kernel
theorem d_MO_pack2_203 : decode b_MO_pack2 203 = .ok (.iload 4, 2) := by decide +kernel
theorem d_MO_pack2_205 : decode b_MO_pack2 205 = .ok (.iastore, 1) := by decide +kernel
theorem d_MO_pack2_206 : decode b_MO_pack2 206 = .ok (.iload 4, 2) := by decide +kernel
theorem d_MO_pack2_208 : decode b_MO_pack2 208 = .ok (.sipush 4095, 3) := by decide +kernel
theorem d_MO_pack2_211 : decode b_MO_pack2 211 = .ok (.if_icmp .ne 7, 3) := by decide +kernel
theorem d_MO_pack2_214 : decode b_MO_pack2 214 = .ok (.iconst 1, 1) := by decide +kernel
theorem d_MO_pack2_215 : decode b_MO_pack2 215 = .ok (.goto 4, 3) := by decide +kernel
theorem d_MO_pack2_218 : decode b_MO_pack2 218 = .ok (.iconst 0, 1) := by decide +kernel
theorem d_MO_pack2_219 : decode b_MO_pack2 219 = .ok (.istore 6, 2) := by decide +kernel
theorem d_MO_pack2_221 : decode b_MO_pack2 221 = .ok (.iinc 4 1, 3) := by decide +kernel
theorem d_MO_pack2_224 : decode b_MO_pack2 224 = .ok (.iload 8, 2) := by decide +kernel
theorem d_MO_pack2_226 : decode b_MO_pack2 226 = .ok (.istore 5, 2) := by decide +kernel
theorem d_MO_pack2_228 : decode b_MO_pack2 228 = .ok (.iinc 7 1, 3) := by decide +kernel
theorem d_MO_pack2_231 : decode b_MO_pack2 231 = .ok (.goto (-156), 3) := by decide +kernel
theorem d_MO_pack2_234 : decode b_MO_pack2 234 = .ok (.aload_n 0, 1) := by decide +kernel
theorem d_MO_pack2_235 : decode b_MO_pack2 235 = .ok (.iload 5, 2) := by decide +kernel
theorem d_MO_pack2_237 : decode b_MO_pack2 237 = .ok (.invokevirtual 106, 3) := by decide +kernel
theorem d_MO_pack2_240 : decode b_MO_pack2 240 = .ok (.iload 6, 2) := by decide +kernel
theorem d_MO_pack2_242 : decode b_MO_pack2 242 = .ok (.ifCond .eq 17, 3) := by decide +kernel
theorem d_MO_pack2_245 : decode b_MO_pack2 245 = .ok (.aload_n 0, 1) := by decide +kernel
theorem d_MO_pack2_246 : decode b_MO_pack2 246 = .ok (.iload_n 3, 1) := by decide +kernel
theorem d_MO_pack2_247 : decode b_MO_pack2 247 = .ok (.aload_n 0, 1) := by decide +kernel
theorem d_MO_pack2_248 : decode b_MO_pack2 248 = .ok (.getfield 89, 3) := by decide +kernel
theorem d_MO_pack2_251 : decode b_MO_pack2 251 = .ok (.invokevirtual 99, 3) := by decide +kernel
theorem d_MO_pack2_254 : decode b_MO_pack2 254 = .ok (.aload_n 0, 1) := by decide +kernel
theorem d_MO_pack2_255 : decode b_MO_pack2 255 = .ok (.iload_n 1, 1) := by decide +kernel
theorem d_MO_pack2_256 : decode b_MO_pack2 256 = .ok (.invokevirtual 103, 3) := by decide +kernel
theorem d_MO_pack2_259 : decode b_MO_pack2 259 = .ok (.aload_n 0, 1) := by decide +kernel
theorem d_MO_pack2_260 : decode b_MO_pack2 260 = .ok (.iload_n 3, 1) := by decide +kernel
theorem d_MO_pack2_261 : decode b_MO_pack2 261 = .ok (.iconst 1, 1) := by decide +kernel
theorem d_MO_pack2_262 : decode b_MO_pack2 262 = .ok (.iadd, 1) := by decide +kernel
theorem d_MO_pack2_263 : decode b_MO_pack2 263 = .ok (.aload_n 0, 1) := by decide +kernel
theorem d_MO_pack2_264 : decode b_MO_pack2 264 = .ok (.getfield 89, 3) := by decide +kernel
theorem d_MO_pack2_267 : decode b_MO_pack2 267 = .ok (.invokevirtual 99, 3) := by decide +kernel
theorem d_MO_pack2_270 : decode b_MO_pack2 270 = .ok (.aload_n 0, 1) := by decide +kernel
theorem d_MO_pack2_271 : decode b_MO_pack2 271 = .ok (.invokevirtual 83, 3) := by decide +kernel
theorem d_MO_pack2_274 : decode b_MO_pack2 274 = .ok (.return_, 1) := by decide +kernel
theorem d_MO_unpack_0 : decode b_MO_unpack 0 = .ok (.aload_n 0, 1) := by decide +kernel
theorem d_MO_unpack_1 : decode b_MO_unpack 1 = .ok (.iconst 0, 1) := by decide +kernel
theorem d_MO_unpack_2 : decode b_MO_unpack 2 = .ok (.putfield 40, 3) := by decide +kernel
theorem d_MO_unpack_5 : decode b_MO_unpack 5 = .ok (.iload_n 1, 1) := by decide +kernel
theorem d_MO_unpack_6 : decode b_MO_unpack 6 = .ok (.iconst 2, 1) := by decide +kernel
theorem d_MO_unpack_7 : decode b_MO_unpack 7 = .ok (.if_icmp .lt 9, 3) := by decide +kernel
theorem d_MO_unpack_10 : decode b_MO_unpack 10 = .ok (.iload_n 1, 1) := by decide +kernel
theorem d_MO_unpack_11 : decode b_MO_unpack 11 = .ok (.bipush 8, 2) := by decide +kernel
theorem d_MO_unpack_13 : decode b_MO_unpack 13 = .ok (.if_icmp .le 9, 3) := by decide +kernel
theorem d_MO_unpack_16 : decode b_MO_unpack 16 = .ok (.aload_n 0, 1) := by decide +kernel
theorem d_MO_unpack_17 : decode b_MO_unpack 17 = .ok (.iconst 1, 1) := by decide +kernel
theorem d_MO_unpack_18 : decode b_MO_unpack 18 = .ok (.invokevirtual 109, 3) := by decide +kernel
theorem d_MO_unpack_21 : decode b_MO_unpack 21 = .ok (.ireturn, 1) := by decide +kernel
theorem d_MO_unpack_22 : decode b_MO_unpack 22 = .ok (.iconst 0, 1) := by decide +kernel
theorem d_MO_unpack_23 : decode b_MO_unpack 23 = .ok (.istore_n 2, 1) := by decide +kernel
theorem d_MO_unpack_24 : decode b_MO_unpack 24 = .ok (.iload_n 2, 1) := by decide +kernel
theorem d_MO_unpack_25 : decode b_MO_unpack 25 = .ok (.aload_n 0, 1) := by decide +kernel
theorem d_MO_unpack_26 : decode b_MO_unpack 26 = .ok (.getfield 112, 3) := by decide +kernel
theorem d_MO_unpack_29 : decode b_MO_unpack 29 = .ok (.if_icmp .ge 21, 3) := by decide +kernel
theorem d_MO_unpack_32 : decode b_MO_unpack 32 = .ok (.aload_n 0, 1) := by decide +kernel
theorem d_MO_unpack_33 : decode b_MO_unpack 33 = .ok (.getfield 16, 3) := by decide +kernel
theorem d_MO_unpack_36 : decode b_MO_unpack 36 = .ok (.iload_n 2, 1) := by decide +kernel
theorem d_MO_unpack_37 : decode b_MO_unpack 37 = .ok (.aload_n 0, 1) := by decide +kernel
theorem d_MO_unpack_38 : decode b_MO_unpack 38 = .ok (.getfield 7, 3) := by decide +kernel
theorem d_MO_unpack_41 : decode b_MO_unpack 41 = .ok (.iload_n 2, 1) := by decide +kernel
theorem d_MO_unpack_42 : decode b_MO_unpack 42 = .ok (.baload, 1) := by decide +kernel
theorem d_MO_unpack_43 : decode b_MO_unpack 43 = .ok (.bastore, 1) := by decide +kernel
theorem d_MO_unpack_44 : decode b_MO_unpack 44 = .ok (.iinc 2 1, 3) := by decide +kernel
theorem d_MO_unpack_47 : decode b_MO_unpack 47 = .ok (.goto (-23), 3) := by decide +kernel
theorem d_MO_unpack_50 : decode b_MO_unpack 50 = .ok (.aload_n 0, 1) := by decide +kernel
theorem d_MO_unpack_51 : decode b_MO_unpack 51 = .ok (.aload_n 0, 1) := by decide +kernel
theorem d_MO_unpack_52 : decode b_MO_unpack 52 = .ok (.getfield 112, 3) := by decide +kernel
theorem d_MO_unpack_55 : decode b_MO_unpack 55 = .ok (.putfield 50, 3) := by decide +kernel
theorem d_MO_unpack_58 : decode b_MO_unpack 58 = .ok (.aload_n 0, 1) := by decide +kernel
theorem d_MO_unpack_59 : decode b_MO_unpack 59 = .ok (.iconst 0, 1) := by decide +kernel
theorem d_MO_unpack_60 : decode b_MO_unpack 60 = .ok (.putfield 112, 3) := by decide +kernel
theorem d_MO_unpack_63 : decode b_MO_unpack 63 = .ok (.aload_n 0, 1) := by decide +kernel
theorem d_MO_unpack_64 : decode b_MO_unpack 64 = .ok (.iconst 0, 1) := by decide +kernel
theorem d_MO_unpack_65 : decode b_MO_unpack 65 = .ok (.putfield 63, 3) := by decide +kernel
theorem d_MO_unpack_68 : decode b_MO_unpack 68 = .ok (.aload_n 0, 1) := by decide +kernel
theorem d_MO_unpack_69 : decode b_MO_unpack 69 = .ok (.iload_n 1, 1) := by decide +kernel
theorem d_MO_unpack_70 : decode b_MO_unpack 70 = .ok (.invokevirtual 115, 3) := by decide +kernel
theorem d_MO_unpack_73 : decode b_MO_unpack 73 = .ok (.goto 17, 3) := by decide +kernel
theorem d_MO_unpack_76 : decode b_MO_unpack 76 = .ok (.astore_n 2, 1) := by decide +kernel
theorem d_MO_unpack_77 : decode b_MO_unpack 77 = .ok (.aload_n 0, 1) := by decide +kernel
theorem d_MO_unpack_78 : decode b_MO_unpack 78 = .ok (.iconst 2, 1) := by decide +kernel
theorem d_MO_unpack_79 : decode b_MO_unpack 79 = .ok (.invokevirtual 109, 3) := by decide +kernel
theorem d_MO_unpack_82 : decode b_MO_unpack 82 = .ok (.ireturn, 1) := by decide +kernel
theorem d_MO_unpack_83 : decode b_MO_unpack 83 = .ok (.astore_n 2, 1) := by decide +kernel
theorem d_MO_unpack_84 : decode b_MO_unpack 84 = .ok (.aload_n 0, 1) := by decide +kernel
theorem d_MO_unpack_85 : decode b_MO_unpack 85 = .ok (.iconst 3, 1) := by decide +kernel
theorem d_MO_unpack_86 : decode b_MO_unpack 86 = .ok (.invokevirtual 109, 3) := by decide +kernel
theorem d_MO_unpack_89 : decode b_MO_unpack 89 = .ok (.ireturn, 1) := by decide +kernel
theorem d_MO_unpack_90 : decode b_MO_unpack 90 = .ok (.aload_n 0, 1) := by decide +kernel
theorem d_MO_unpack_91 : decode b_MO_unpack 91 = .ok (.aload_n 0, 1) := by decide +kernel
theorem d_MO_unpack_92 : decode b_MO_unpack 92 = .ok (.getfield 63, 3) := by decide +kernel
theorem d_MO_unpack_95 : decode b_MO_unpack 95 = .ok (.putfield 118, 3) := by decide +kernel
theorem d_MO_unpack_98 : decode b_MO_unpack 98 = .ok (.iconst 0, 1) := by decide +kernel
theorem d_MO_unpack_99 : decode b_MO_unpack 99 = .ok (.istore_n 2, 1) := by decide +kernel
theorem d_MO_unpack_100 : decode b_MO_unpack 100 = .ok (.iload_n 2, 1) := by decide +kernel
theorem d_MO_unpack_101 : decode b_MO_unpack 101 = .ok (.aload_n 0, 1) := by decide +kernel
theorem d_MO_unpack_102 : decode b_MO_unpack 102 = .ok (.getfield 118, 3) := by decide +kernel
theorem d_MO_unpack_105 : decode b_MO_unpack 105 = .ok (.if_icmp .ge 21, 3) := by decide +kernel
theorem d_MO_unpack_108 : decode b_MO_unpack 108 = .ok (.aload_n 0, 1) := by decide +kernel
theorem d_MO_unpack_109 : decode b_MO_unpack 109 = .ok (.getfield 13, 3) := by decide +kernel
theorem d_MO_unpack_112 : decode b_MO_unpack 112 = .ok (.iload_n 2, 1) := by decide +kernel
theorem d_MO_unpack_113 : decode b_MO_unpack 113 = .ok (.aload_n 0, 1) := by decide +kernel
theorem d_MO_unpack_114 : decode b_MO_unpack 114 = .ok (.getfield 19, 3) := by decide +kernel
theorem d_MO_unpack_117 : decode b_MO_unpack 117 = .ok (.iload_n 2, 1) := by decide +kernel
theorem d_MO_unpack_118 : decode b_MO_unpack 118 = .ok (.baload, 1) := by decide +kernel
theorem d_MO_unpack_119 : decode b_MO_unpack 119 = .ok (.bastore, 1) := by decide +kernel
theorem d_MO_unpack_120 : decode b_MO_unpack 120 = .ok (.iinc 2 1, 3) := by decide +kernel
theorem d_MO_unpack_123 : decode b_MO_unpack 123 = .ok (.goto (-23), 3) := by decide +kernel
theorem d_MO_unpack_126 : decode b_MO_unpack 126 = .ok (.aload_n 0, 1) := by decide +kernel
theorem d_MO_unpack_127 : decode b_MO_unpack 127 = .ok (.getfield 118, 3) := by decide +kernel
theorem d_MO_unpack_130 : decode b_MO_unpack 130 = .ok (.ireturn, 1) := by decide +kernel
theorem d_MO_pack1_0 : decode b_MO_pack1 0 = .ok (.aload_n 0, 1) := by decide +kernel
theorem d_MO_pack1_1 : decode b_MO_pack1 1 = .ok (.iconst 0, 1) := by decide +kernel
theorem d_MO_pack1_2 : decode b_MO_pack1 2 = .ok (.putfield 40, 3) := by decide +kernel
theorem d_MO_pack1_5 : decode b_MO_pack1 5 = .ok (.iload_n 1, 1) := by decide +kernel
theorem d_MO_pack1_6 : decode b_MO_pack1 6 = .ok (.iconst 2, 1) := by decide +kernel
theorem d_MO_pack1_7 : decode b_MO_pack1 7 = .ok (.if_icmp .lt 9, 3) := by decide +kernel
theorem d_MO_pack1_10 : decode b_MO_pack1 10 = .ok (.iload_n 1, 1) := by decide +kernel
theorem d_MO_pack1_11 : decode b_MO_pack1 11 = .ok (.bipush 8, 2) := by decide +kernel
theorem d_MO_pack1_13 : decode b_MO_pack1 13 = .ok (.if_icmp .le 9, 3) := by decide +kernel
theorem d_MO_pack1_16 : decode b_MO_pack1 16 = .ok (.aload_n 0, 1) := by decide +kernel
theorem d_MO_pack1_17 : decode b_MO_pack1 17 = .ok (.iconst 1, 1) := by decide +kernel
theorem d_MO_pack1_18 : decode b_MO_pack1 18 = .ok (.invokevirtual 109, 3) := by decide +kernel
theorem d_MO_pack1_21 : decode b_MO_pack1 21 = .ok (.ireturn, 1) := by decide +kernel
theorem d_MO_pack1_22 : decode b_MO_pack1 22 = .ok (.aload_n 0, 1) := by decide +kernel
theorem d_MO_pack1_23 : decode b_MO_pack1 23 = .ok (.getfield 112, 3) := by decide +kernel
theorem d_MO_pack1_26 : decode b_MO_pack1 26 = .ok (.ifCond .ne 9, 3) := by decide +kernel
theorem d_MO_pack1_29 : decode b_MO_pack1 29 = .ok (.aload_n 0, 1) := by decide +kernel
theorem d_MO_pack1_30 : decode b_MO_pack1 30 = .ok (.iconst 2, 1) := by decide +kernel
theorem d_MO_pack1_31 : decode b_MO_pack1 31 = .ok (.invokevirtual 109, 3) := by decide +kernel
theorem d_MO_pack1_34 : decode b_MO_pack1 34 = .ok (.ireturn, 1) := by decide +kernel
theorem d_MO_pack1_35 : decode b_MO_pack1 35 = .ok (.iconst 0, 1) := by decide +kernel
theorem d_MO_pack1_36 : decode b_MO_pack1 36 = .ok (.istore_n 2, 1) := by decide +kernel
theorem d_MO_pack1_37 : decode b_MO_pack1 37 = .ok (.iload_n 2, 1) := by decide +kernel
theorem d_MO_pack1_38 : decode b_MO_pack1 38 = .ok (.aload_n 0, 1) := by decide +kernel
theorem d_MO_pack1_39 : decode b_MO_pack1 39 = .ok (.getfield 112, 3) := by decide +kernel
theorem d_MO_pack1_42 : decode b_MO_pack1 42 = .ok (.if_icmp .ge 43, 3) := by decide +kernel
theorem d_MO_pack1_45 : decode b_MO_pack1 45 = .ok (.aload_n 0, 1) := by decide +kernel
theorem d_MO_pack1_46 : decode b_MO_pack1 46 = .ok (.getfield 7, 3) := by decide +kernel
theorem d_MO_pack1_49 : decode b_MO_pack1 49 = .ok (.iload_n 2, 1) := by decide +kernel
theorem d_MO_pack1_50 : decode b_MO_pack1 50 = .ok (.baload, 1) := by decide +kernel
theorem d_MO_pack1_51 : decode b_MO_pack1 51 = .ok (.sipush 255, 3) := by decide +kernel
theorem d_MO_pack1_54 : decode b_MO_pack1 54 = .ok (.iand, 1) := by decide +kernel
theorem d_MO_pack1_55 : decode b_MO_pack1 55 = .ok (.iconst 1, 1) := by decide +kernel
theorem d_MO_pack1_56 : decode b_MO_pack1 56 = .ok (.iload_n 1, 1) := by decide +kernel
theorem d_MO_pack1_57 : decode b_MO_pack1 57 = .ok (.ishl, 1) := by decide +kernel
theorem d_MO_pack1_58 : decode b_MO_pack1 58 = .ok (.if_icmp .lt 9, 3) := by decide +kernel
theorem d_MO_pack1_61 : decode b_MO_pack1 61 = .ok (.aload_n 0, 1) := by decide +kernel
theorem d_MO_pack1_62 : decode b_MO_pack1 62 = .ok (.iconst 2, 1) := by decide +kernel
theorem d_MO_pack1_63 : decode b_MO_pack1 63 = .ok (.invokevirtual 109, 3) := by decide +kernel
theorem d_MO_pack1_66 : decode b_MO_pack1 66 = .ok (.ireturn, 1) := by decide +kernel
theorem d_MO_pack1_67 : decode b_MO_pack1 67 = .ok (.aload_n 0, 1) := by decide +kernel
theorem d_MO_pack1_68 : decode b_MO_pack1 68 = .ok (.getfield 19, 3) := by decide +kernel
theorem d_MO_pack1_71 : decode b_MO_pack1 71 = .ok (.iload_n 2, 1) := by decide +kernel
theorem d_MO_pack1_72 : decode b_MO_pack1 72 = .ok (.aload_n 0, 1) := by decide +kernel
theorem d_MO_pack1_73 : decode b_MO_pack1 73 = .ok (.getfield 7, 3) := by decide +kernel
theorem d_MO_pack1_76 : decode b_MO_pack1 76 = .ok (.iload_n 2, 1) := by decide +kernel
theorem d_MO_pack1_77 : decode b_MO_pack1 77 = .ok (.baload, 1) := by decide +kernel
theorem d_MO_pack1_78 : decode b_MO_pack1 78 = .ok (.bastore, 1) := by decide +kernel
theorem d_MO_pack1_79 : decode b_MO_pack1 79 = .ok (.iinc 2 1, 3) := by decide +kernel
theorem d_MO_pack1_82 : decode b_MO_pack1 82 = .ok (.goto (-45), 3) := by decide +kernel
theorem d_MO_pack1_85 : decode b_MO_pack1 85 = .ok (.aload_n 0, 1) := by decide +kernel
theorem d_MO_pack1_86 : decode b_MO_pack1 86 = .ok (.iconst 0, 1) := by decide +kernel
theorem d_MO_pack1_87 : decode b_MO_pack1 87 = .ok (.putfield 57, 3) := by decide +kernel
theorem d_MO_pack1_90 : decode b_MO_pack1 90 = .ok (.aload_n 0, 1) := by decide +kernel
theorem d_MO_pack1_91 : decode b_MO_pack1 91 = .ok (.iload_n 1, 1) := by decide +kernel
theorem d_MO_pack1_92 : decode b_MO_pack1 92 = .ok (.aload_n 0, 1) := by decide +kernel
theorem d_MO_pack1_93 : decode b_MO_pack1 93 = .ok (.getfield 112, 3) := by decide +kernel
theorem d_MO_pack1_96 : decode b_MO_pack1 96 = .ok (.invokevirtual 121, 3) := by decide +kernel
theorem d_MO_pack1_99 : decode b_MO_pack1 99 = .ok (.aload_n 0, 1) := by decide +kernel
theorem d_MO_pack1_100 : decode b_MO_pack1 100 = .ok (.getfield 57, 3) := by decide +kernel
theorem d_MO_pack1_103 : decode b_MO_pack1 103 = .ok (.sipush 16384, 3) := by decide +kernel
theorem d_MO_pack1_106 : decode b_MO_pack1 106 = .ok (.if_icmp .le 9, 3) := by decide +kernel
theorem d_MO_pack1_109 : decode b_MO_pack1 109 = .ok (.aload_n 0, 1) := by decide +kernel
theorem d_MO_pack1_110 : decode b_MO_pack1 110 = .ok (.iconst 3, 1) := by decide +kernel
theorem d_MO_pack1_111 : decode b_MO_pack1 111 = .ok (.invokevirtual 109, 3) := by decide +kernel
theorem d_MO_pack1_114 : decode b_MO_pack1 114 = .ok (.ireturn, 1) := by decide +kernel
theorem d_MO_pack1_115 : decode b_MO_pack1 115 = .ok (.aload_n 0, 1) := by decide +kernel
theorem d_MO_pack1_116 : decode b_MO_pack1 116 = .ok (.aload_n 0, 1) := by decide +kernel
theorem d_MO_pack1_117 : decode b_MO_pack1 117 = .ok (.getfield 57, 3) := by decide +kernel
theorem d_MO_pack1_120 : decode b_MO_pack1 120 = .ok (.putfield 118, 3) := by decide +kernel
theorem d_MO_pack1_123 : decode b_MO_pack1 123 = .ok (.iconst 0, 1) := by decide +kernel
theorem d_MO_pack1_124 : decode b_MO_pack1 124 = .ok (.istore_n 2, 1) := by decide +kernel
theorem d_MO_pack1_125 : decode b_MO_pack1 125 = .ok (.iload_n 2, 1) := by decide +kernel
theorem d_MO_pack1_126 : decode b_MO_pack1 126 = .ok (.aload_n 0, 1) := by decide +kernel
theorem d_MO_pack1_127 : decode b_MO_pack1 127 = .ok (.getfield 118, 3) := by decide +kernel
theorem d_MO_pack1_130 : decode b_MO_pack1 130 = .ok (.if_icmp .ge 21, 3) := by decide +kernel
theorem d_MO_pack1_133 : decode b_MO_pack1 133 = .ok (.aload_n 0, 1) := by decide +kernel
theorem d_MO_pack1_134 : decode b_MO_pack1 134 = .ok (.getfield 13, 3) := by decide +kernel
theorem d_MO_pack1_137 : decode b_MO_pack1 137 = .ok (.iload_n 2, 1) := by decide +kernel
theorem d_MO_pack1_138 : decode b_MO_pack1 138 = .ok (.aload_n 0, 1) := by decide +kernel
theorem d_MO_pack1_139 : decode b_MO_pack1 139 = .ok (.getfield 23, 3) := by decide +kernel
theorem d_MO_pack1_142 : decode b_MO_pack1 142 = .ok (.iload_n 2, 1) := by decide +kernel
theorem d_MO_pack1_143 : decode b_MO_pack1 143 = .ok (.baload, 1) := by decide +kernel
theorem d_MO_pack1_144 : decode b_MO_pack1 144 = .ok (.bastore, 1) := by decide +kernel
theorem d_MO_pack1_145 : decode b_MO_pack1 145 = .ok (.iinc 2 1, 3) := by decide +kernel
theorem d_MO_pack1_148 : decode b_MO_pack1 148 = .ok (.goto (-23), 3) := by decide +kernel
theorem d_MO_pack1_151 : decode b_MO_pack1 151 = .ok (.aload_n 0, 1) := by decide +kernel
theorem d_MO_pack1_152 : decode b_MO_pack1 152 = .ok (.getfield 118, 3) := by decide +kernel
theorem d_MO_pack1_155 : decode b_MO_pack1 155 = .ok (.ireturn, 1) := by decide +kernel
theorem d_MO_mask_0 : decode b_MO_mask 0 = .ok (.aload_n 0, 1) := by decide +kernel
theorem d_MO_mask_1 : decode b_MO_mask 1 = .ok (.iconst 0, 1) := by decide +kernel
theorem d_MO_mask_2 : decode b_MO_mask 2 = .ok (.putfield 40, 3) := by decide +kernel
theorem d_MO_mask_5 : decode b_MO_mask 5 = .ok (.iload_n 1, 1) := by decide +kernel
theorem d_MO_mask_6 : decode b_MO_mask 6 = .ok (.iconst 2, 1) := by decide +kernel
theorem d_MO_mask_7 : decode b_MO_mask 7 = .ok (.if_icmp .lt 9, 3) := by decide +kernel
theorem d_MO_mask_10 : decode b_MO_mask 10 = .ok (.iload_n 1, 1) := by decide +kernel
theorem d_MO_mask_11 : decode b_MO_mask 11 = .ok (.bipush 8, 2) := by decide +kernel
theorem d_MO_mask_13 : decode b_MO_mask 13 = .ok (.if_icmp .le 11, 3) := by decide +kernel
theorem d_MO_mask_16 : decode b_MO_mask 16 = .ok (.aload_n 0, 1) := by decide +kernel
theorem d_MO_mask_17 : decode b_MO_mask 17 = .ok (.iconst 1, 1) := by decide +kernel
theorem d_MO_mask_18 : decode b_MO_mask 18 = .ok (.putfield 40, 3) := by decide +kernel
theorem d_MO_mask_21 : decode b_MO_mask 21 = .ok (.goto 38, 3) := by decide +kernel
theorem d_MO_mask_24 : decode b_MO_mask 24 = .ok (.iconst 0, 1) := by decide +kernel
theorem d_MO_mask_25 : decode b_MO_mask 25 = .ok (.istore_n 2, 1) := by decide +kernel
theorem d_MO_mask_26 : decode b_MO_mask 26 = .ok (.iload_n 2, 1) := by decide +kernel
theorem d_MO_mask_27 : decode b_MO_mask 27 = .ok (.aload_n 0, 1) := by decide +kernel
theorem d_MO_mask_28 : decode b_MO_mask 28 = .ok (.getfield 112, 3) := by decide +kernel
theorem d_MO_mask_31 : decode b_MO_mask 31 = .ok (.if_icmp .ge 28, 3) := by decide +kernel
theorem d_MO_mask_34 : decode b_MO_mask 34 = .ok (.aload_n 0, 1) := by decide +kernel
theorem d_MO_mask_35 : decode b_MO_mask 35 = .ok (.getfield 7, 3) := by decide +kernel
theorem d_MO_mask_38 : decode b_MO_mask 38 = .ok (.iload_n 2, 1) := by decide +kernel
theorem d_MO_mask_39 : decode b_MO_mask 39 = .ok (.aload_n 0, 1) := by decide +kernel
theorem d_MO_mask_40 : decode b_MO_mask 40 = .ok (.getfield 7, 3) := by decide +kernel
theorem d_MO_mask_43 : decode b_MO_mask 43 = .ok (.iload_n 2, 1) := by decide +kernel
theorem d_MO_mask_44 : decode b_MO_mask 44 = .ok (.baload, 1) := by decide +kernel
theorem d_MO_mask_45 : decode b_MO_mask 45 = .ok (.iconst 1, 1) := by decide +kernel
theorem d_MO_mask_46 : decode b_MO_mask 46 = .ok (.iload_n 1, 1) := by decide +kernel
theorem d_MO_mask_47 : decode b_MO_mask 47 = .ok (.ishl, 1) := by decide +kernel
theorem d_MO_mask_48 : decode b_MO_mask 48 = .ok (.iconst 1, 1) := by decide +kernel
theorem d_MO_mask_49 : decode b_MO_mask 49 = .ok (.isub, 1) := by decide +kernel
theorem d_MO_mask_50 : decode b_MO_mask 50 = .ok (.iand, 1) := by decide +kernel
theorem d_MO_mask_51 : decode b_MO_mask 51 = .ok (.i2b, 1) := by decide +kernel
theorem d_MO_mask_52 : decode b_MO_mask 52 = .ok (.bastore, 1) := by decide +kernel
theorem d_MO_mask_53 : decode b_MO_mask 53 = .ok (.iinc 2 1, 3) := by decide +kernel
theorem d_MO_mask_56 : decode b_MO_mask 56 = .ok (.goto (-30), 3) := by decide +kernel
theorem d_MO_mask_59 : decode b_MO_mask 59 = .ok (.return_, 1) := by decide +kernel
theorem d_MO_feed_0 : decode b_MO_feed 0 = .ok (.aload_n 0, 1) := by decide +kernel
theorem d_MO_feed_1 : decode b_MO_feed 1 = .ok (.iconst 0, 1) := by decide +kernel
theorem d_MO_feed_2 : decode b_MO_feed 2 = .ok (.putfield 40, 3) := by decide +kernel
theorem d_MO_feed_5 : decode b_MO_feed 5 = .ok (.aload_n 0, 1) := by decide +kernel
theorem d_MO_feed_6 : decode b_MO_feed 6 = .ok (.getfield 112, 3) := by decide +kernel
theorem d_MO_feed_9 : decode b_MO_feed 9 = .ok (.bipush 20, 2) := by decide +kernel
theorem d_MO_feed_11 : decode b_MO_feed 11 = .ok (.iadd, 1) := by decide +kernel
theorem d_MO_feed_12 : decode b_MO_feed 12 = .ok (.sipush 16384, 3) := by decide +kernel
theorem d_MO_feed_15 : decode b_MO_feed 15 = .ok (.if_icmp .le 9, 3) := by decide +kernel
theorem d_MO_feed_18 : decode b_MO_feed 18 = .ok (.aload_n 0, 1) := by decide +kernel
theorem d_MO_feed_19 : decode b_MO_feed 19 = .ok (.iconst 1, 1) := by decide +kernel
theorem d_MO_feed_20 : decode b_MO_feed 20 = .ok (.invokevirtual 109, 3) := by decide +kernel
theorem d_MO_feed_23 : decode b_MO_feed 23 = .ok (.ireturn, 1) := by decide +kernel
theorem d_MO_feed_24 : decode b_MO_feed 24 = .ok (.iconst 0, 1) := by decide +kernel
theorem d_MO_feed_25 : decode b_MO_feed 25 = .ok (.istore 6, 2) := by decide +kernel
theorem d_MO_feed_27 : decode b_MO_feed 27 = .ok (.iload 6, 2) := by decide +kernel
theorem d_MO_feed_29 : decode b_MO_feed 29 = .ok (.bipush 20, 2) := by decide +kernel
theorem d_MO_feed_31 : decode b_MO_feed 31 = .ok (.if_icmp .ge 90, 3) := by decide +kernel
theorem d_MO_feed_34 : decode b_MO_feed 34 = .ok (.iload 6, 2) := by decide +kernel
theorem d_MO_feed_36 : decode b_MO_feed 36 = .ok (.iconst 4, 1) := by decide +kernel
theorem d_MO_feed_37 : decode b_MO_feed 37 = .ok (.if_icmp .ge 7, 3) := by decide +kernel
theorem d_MO_feed_40 : decode b_MO_feed 40 = .ok (.iload_n 1, 1) := by decide +kernel
theorem d_MO_feed_41 : decode b_MO_feed 41 = .ok (.goto 39, 3) := by decide +kernel
theorem d_MO_feed_44 : decode b_MO_feed 44 = .ok (.iload 6, 2) := by decide +kernel
theorem d_MO_feed_46 : decode b_MO_feed 46 = .ok (.bipush 8, 2) := by decide +kernel
theorem d_MO_feed_48 : decode b_MO_feed 48 = .ok (.if_icmp .ge 7, 3) := by decide +kernel
theorem d_MO_feed_51 : decode b_MO_feed 51 = .ok (.iload_n 2, 1) := by decide +kernel
theorem d_MO_feed_52 : decode b_MO_feed 52 = .ok (.goto 28, 3) := by decide +kernel
theorem d_MO_feed_55 : decode b_MO_feed 55 = .ok (.iload 6, 2) := by decide +kernel
theorem d_MO_feed_57 : decode b_MO_feed 57 = .ok (.bipush 12, 2) := by decide +kernel
theorem d_MO_feed_59 : decode b_MO_feed 59 = .ok (.if_icmp .ge 7, 3) := by decide +kernel
theorem d_MO_feed_62 : decode b_MO_feed 62 = .ok (.iload_n 3, 1) := by decide +kernel
theorem d_MO_feed_63 : decode b_MO_feed 63 = .ok (.goto 17, 3) := by decide +kernel
theorem d_MO_feed_66 : decode b_MO_feed 66 = .ok (.iload 6, 2) := by decide +kernel
theorem d_MO_feed_68 : decode b_MO_feed 68 = .ok (.bipush 16, 2) := by decide +kernel
theorem d_MO_feed_70 : decode b_MO_feed 70 = .ok (.if_icmp .ge 8, 3) := by decide +kernel
theorem d_MO_feed_73 : decode b_MO_feed 73 = .ok (.iload 4, 2) := by decide +kernel
theorem d_MO_feed_75 : decode b_MO_feed 75 = .ok (.goto 5, 3) := by decide +kernel
theorem d_MO_feed_78 : decode b_MO_feed 78 = .ok (.iload 5, 2) := by decide +kernel
theorem d_MO_feed_80 : decode b_MO_feed 80 = .ok (.istore 7, 2) := by decide +kernel
theorem d_MO_feed_82 : decode b_MO_feed 82 = .ok (.aload_n 0, 1) := by decide +kernel
theorem d_MO_feed_83 : decode b_MO_feed 83 = .ok (.getfield 7, 3) := by decide +kernel
theorem d_MO_feed_86 : decode b_MO_feed 86 = .ok (.aload_n 0, 1) := by decide +kernel
theorem d_MO_feed_87 : decode b_MO_feed 87 = .ok (.getfield 112, 3) := by decide +kernel
theorem d_MO_feed_90 : decode b_MO_feed 90 = .ok (.iload 7, 2) := by decide +kernel
theorem d_MO_feed_92 : decode b_MO_feed 92 = .ok (.bipush 24, 2) := by decide +kernel
theorem d_MO_feed_94 : decode b_MO_feed 94 = .ok (.bipush 8, 2) := by decide +kernel
theorem d_MO_feed_96 : decode b_MO_feed 96 = .ok (.iload 6, 2) := by decide +kernel
theorem d_MO_feed_98 : decode b_MO_feed 98 = .ok (.iconst 4, 1) := by decide +kernel
theorem d_MO_feed_99 : decode b_MO_feed 99 = .ok (.irem, 1) := by decide +kernel
theorem d_MO_feed_100 : decode b_MO_feed 100 = .ok (.imul, 1) := by decide +kernel
theorem d_MO_feed_101 : decode b_MO_feed 101 = .ok (.isub, 1) := by decide +kernel
theorem d_MO_feed_102 : decode b_MO_feed 102 = .ok (.ishr, 1) := by decide +kernel
theorem d_MO_feed_103 : decode b_MO_feed 103 = .ok (.i2b, 1) := by decide +kernel
theorem d_MO_feed_104 : decode b_MO_feed 104 = .ok (.bastore, 1) := by decide +kernel
theorem d_MO_feed_105 : decode b_MO_feed 105 = .ok (.aload_n 0, 1) := by decide +kernel
theorem d_MO_feed_106 : decode b_MO_feed 106 = .ok (.dup, 1) := by decide +kernel
theorem d_MO_feed_107 : decode b_MO_feed 107 = .ok (.getfield 112, 3) := by decide +kernel
theorem d_MO_feed_110 : decode b_MO_feed 110 = .ok (.iconst 1, 1) := by decide +kernel
theorem d_MO_feed_111 : decode b_MO_feed 111 = .ok (.iadd, 1) := by decide +kernel
theorem d_MO_feed_112 : decode b_MO_feed 112 = .ok (.putfield 112, 3) := by decide +kernel
theorem d_MO_feed_115 : decode b_MO_feed 115 = .ok (.iinc 6 1, 3) := by decide +kernel
theorem d_MO_feed_118 : decode b_MO_feed 118 = .ok (.goto (-91), 3) := by decide +kernel
theorem d_MO_feed_121 : decode b_MO_feed 121 = .ok (.aload_n 0, 1) := by decide +kernel
theorem d_MO_feed_122 : decode b_MO_feed 122 = .ok (.getfield 112, 3) := by decide +kernel
theorem d_MO_feed_125 : decode b_MO_feed 125 = .ok (.ireturn, 1) := by decide +kernel
theorem d_MO_end_0 : decode b_MO_end 0 = .ok (.aload_n 0, 1) := by decide +kernel
theorem d_MO_end_1 : decode b_MO_end 1 = .ok (.iconst 0, 1) := by decide +kernel
theorem d_MO_end_2 : decode b_MO_end 2 = .ok (.putfield 40, 3) := by decide +kernel
theorem d_MO_end_5 : decode b_MO_end 5 = .ok (.iload_n 1, 1) := by decide +kernel
theorem d_MO_end_6 : decode b_MO_end 6 = .ok (.ifCond .lt 11, 3) := by decide +kernel
theorem d_MO_end_9 : decode b_MO_end 9 = .ok (.iload_n 1, 1) := by decide +kernel
theorem d_MO_end_10 : decode b_MO_end 10 = .ok (.aload_n 0, 1) := by decide +kernel
theorem d_MO_end_11 : decode b_MO_end 11 = .ok (.getfield 112, 3) := by decide +kernel
theorem d_MO_end_14 : decode b_MO_end 14 = .ok (.if_icmp .le 9, 3) := by decide +kernel
theorem d_MO_end_17 : decode b_MO_end 17 = .ok (.aload_n 0, 1) := by decide +kernel
theorem d_MO_end_18 : decode b_MO_end 18 = .ok (.iconst 1, 1) := by decide +kernel
theorem d_MO_end_19 : decode b_MO_end 19 = .ok (.invokevirtual 109, 3) := by decide +kernel
theorem d_MO_end_22 : decode b_MO_end 22 = .ok (.ireturn, 1) := by decide +kernel
theorem d_MO_end_23 : decode b_MO_end 23 = .ok (.aload_n 0, 1) := by decide +kernel
theorem d_MO_end_24 : decode b_MO_end 24 = .ok (.iload_n 1, 1) := by decide +kernel
theorem d_MO_end_25 : decode b_MO_end 25 = .ok (.putfield 112, 3) := by decide +kernel
theorem d_MO_end_28 : decode b_MO_end 28 = .ok (.iload_n 1, 1) := by decide +kernel
theorem d_MO_end_29 : decode b_MO_end 29 = .ok (.ireturn, 1) := by decide +kernel
theorem d_MO_again_0 : decode b_MO_again 0 = .ok (.aload_n 0, 1) := by decide +kernel
theorem d_MO_again_1 : decode b_MO_again 1 = .ok (.iconst 0, 1) := by decide +kernel
theorem d_MO_again_2 : decode b_MO_again 2 = .ok (.putfield 40, 3) := by decide +kernel
theorem d_MO_again_5 : decode b_MO_again 5 = .ok (.iconst 0, 1) := by decide +kernel
theorem d_MO_again_6 : decode b_MO_again 6 = .ok (.istore_n 1, 1) := by decide +kernel
theorem d_MO_again_7 : decode b_MO_again 7 = .ok (.iload_n 1, 1) := by decide +kernel
theorem d_MO_again_8 : decode b_MO_again 8 = .ok (.aload_n 0, 1) := by decide +kernel
theorem d_MO_again_9 : decode b_MO_again 9 = .ok (.getfield 118, 3) := by decide +kernel
theorem d_MO_again_12 : decode b_MO_again 12 = .ok (.if_icmp .ge 21, 3) := by decide +kernel
theorem d_MO_again_15 : decode b_MO_again 15 = .ok (.aload_n 0, 1) := by decide +kernel
theorem d_MO_again_16 : decode b_MO_again 16 = .ok (.getfield 7, 3) := by decide +kernel
theorem d_MO_again_19 : decode b_MO_again 19 = .ok (.iload_n 1, 1) := by decide +kernel
theorem d_MO_again_20 : decode b_MO_again 20 = .ok (.aload_n 0, 1) := by decide +kernel
theorem d_MO_again_21 : decode b_MO_again 21 = .ok (.getfield 13, 3) := by decide +kernel
theorem d_MO_again_24 : decode b_MO_again 24 = .ok (.iload_n 1, 1) := by decide +kernel
theorem d_MO_again_25 : decode b_MO_again 25 = .ok (.baload, 1) := by decide +kernel
theorem d_MO_again_26 : decode b_MO_again 26 = .ok (.bastore, 1) := by decide +kernel
theorem d_MO_again_27 : decode b_MO_again 27 = .ok (.iinc 1 1, 3) := by decide +kernel
theorem d_MO_again_30 : decode b_MO_again 30 = .ok (.goto (-23), 3) := by decide +kernel
theorem d_MO_again_33 : decode b_MO_again 33 = .ok (.aload_n 0, 1) := by decide +kernel
theorem d_MO_again_34 : decode b_MO_again 34 = .ok (.aload_n 0, 1) := by decide +kernel
theorem d_MO_again_35 : decode b_MO_again 35 = .ok (.getfield 118, 3) := by decide +kernel
theorem d_MO_again_38 : decode b_MO_again 38 = .ok (.putfield 112, 3) := by decide +kernel
theorem d_MO_again_41 : decode b_MO_again 41 = .ok (.aload_n 0, 1) := by decide +kernel
theorem d_MO_again_42 : decode b_MO_again 42 = .ok (.getfield 112, 3) := by decide +kernel
theorem d_MO_again_45 : decode b_MO_again 45 = .ok (.ireturn, 1) := by decide +kernel
theorem d_MO_word_0 : decode b_MO_word 0 = .ok (.aload_n 0, 1) := by decide +kernel
theorem d_MO_word_1 : decode b_MO_word 1 = .ok (.iconst 0, 1) := by decide +kernel
theorem d_MO_word_2 : decode b_MO_word 2 = .ok (.putfield 40, 3) := by decide +kernel
theorem d_MO_word_5 : decode b_MO_word 5 = .ok (.iload_n 1, 1) := by decide +kernel
theorem d_MO_word_6 : decode b_MO_word 6 = .ok (.ifCond .lt 11, 3) := by decide +kernel
theorem d_MO_word_9 : decode b_MO_word 9 = .ok (.iload_n 1, 1) := by decide +kernel
theorem d_MO_word_10 : decode b_MO_word 10 = .ok (.aload_n 0, 1) := by decide +kernel
theorem d_MO_word_11 : decode b_MO_word 11 = .ok (.getfield 118, 3) := by decide +kernel
theorem d_MO_word_14 : decode b_MO_word 14 = .ok (.if_icmp .lt 10, 3) := by decide +kernel
theorem d_MO_word_17 : decode b_MO_word 17 = .ok (.aload_n 0, 1) := by decide +kernel
theorem d_MO_word_18 : decode b_MO_word 18 = .ok (.iconst 1, 1) := by decide +kernel
theorem d_MO_word_19 : decode b_MO_word 19 = .ok (.invokevirtual 109, 3) := by decide +kernel
theorem d_MO_word_22 : decode b_MO_word 22 = .ok (.i2l, 1) := by decide +kernel
theorem d_MO_word_23 : decode b_MO_word 23 = .ok (.lreturn, 1) := by decide +kernel
theorem d_MO_word_24 : decode b_MO_word 24 = .ok (.lconst 0, 1) := by decide +kernel
theorem d_MO_word_25 : decode b_MO_word 25 = .ok (.lstore_n 2, 1) := by decide +kernel
theorem d_MO_word_26 : decode b_MO_word 26 = .ok (.iload_n 1, 1) := by decide +kernel
theorem d_MO_word_27 : decode b_MO_word 27 = .ok (.istore 4, 2) := by decide +kernel
theorem d_MO_word_29 : decode b_MO_word 29 = .ok (.iload 4, 2) := by decide +kernel
theorem d_MO_word_31 : decode b_MO_word 31 = .ok (.iload_n 1, 1) := by decide +kernel
theorem d_MO_word_32 : decode b_MO_word 32 = .ok (.bipush 8, 2) := by decide +kernel
theorem d_MO_word_34 : decode b_MO_word 34 = .ok (.iadd, 1) := by decide +kernel
theorem d_MO_word_35 : decode b_MO_word 35 = .ok (.if_icmp .ge 41, 3) := by decide +kernel
theorem d_MO_word_38 : decode b_MO_word 38 = .ok (.lload_n 2, 1) := by decide +kernel
theorem d_MO_word_39 : decode b_MO_word 39 = .ok (.ldc2_w 124, 3) := by decide +kernel
theorem d_MO_word_42 : decode b_MO_word 42 = .ok (.lmul, 1) := by decide +kernel
theorem d_MO_word_43 : decode b_MO_word 43 = .ok (.iload 4, 2) := by decide +kernel
theorem d_MO_word_45 : decode b_MO_word 45 = .ok (.aload_n 0, 1) := by decide +kernel
theorem d_MO_word_46 : decode b_MO_word 46 = .ok (.getfield 118, 3) := by decide +kernel
theorem d_MO_word_49 : decode b_MO_word 49 = .ok (.if_icmp .ge 17, 3) := by decide +kernel
theorem d_MO_word_52 : decode b_MO_word 52 = .ok (.aload_n 0, 1) := by decide +kernel
theorem d_MO_word_53 : decode b_MO_word 53 = .ok (.getfield 13, 3) := by decide +kernel
theorem d_MO_word_56 : decode b_MO_word 56 = .ok (.iload 4, 2) := by decide +kernel
theorem d_MO_word_58 : decode b_MO_word 58 = .ok (.baload, 1) := by decide +kernel
theorem d_MO_word_59 : decode b_MO_word 59 = .ok (.sipush 255, 3) := by decide +kernel
theorem d_MO_word_62 : decode b_MO_word 62 = .ok (.iand, 1) := by decide +kernel
theorem d_MO_word_63 : decode b_MO_word 63 = .ok (.goto 4, 3) := by decide +kernel
theorem d_MO_word_66 : decode b_MO_word 66 = .ok (.iconst 0, 1) := by decide +kernel
theorem d_MO_word_67 : decode b_MO_word 67 = .ok (.i2l, 1) := by decide +kernel
theorem d_MO_word_68 : decode b_MO_word 68 = .ok (.ladd, 1) := by decide +kernel
theorem d_MO_word_69 : decode b_MO_word 69 = .ok (.lstore_n 2, 1) := by decide +kernel
theorem d_MO_word_70 : decode b_MO_word 70 = .ok (.iinc 4 1, 3) := by decide +kernel
theorem d_MO_word_73 : decode b_MO_word 73 = .ok (.goto (-44), 3) := by decide +kernel
theorem d_MO_word_76 : decode b_MO_word 76 = .ok (.lload_n 2, 1) := by decide +kernel
theorem d_MO_word_77 : decode b_MO_word 77 = .ok (.lreturn, 1) := by decide +kernel
theorem d_MO_count_0 : decode b_MO_count 0 = .ok (.aload_n 0, 1) := by decide +kernel
theorem d_MO_count_1 : decode b_MO_count 1 = .ok (.iconst 0, 1) := by decide +kernel
theorem d_MO_count_2 : decode b_MO_count 2 = .ok (.putfield 40, 3) := by decide +kernel
theorem d_MO_count_5 : decode b_MO_count 5 = .ok (.iload_n 1, 1) := by decide +kernel
theorem d_MO_count_6 : decode b_MO_count 6 = .ok (.ifCond .lt 8, 3) := by decide +kernel
theorem d_MO_count_9 : decode b_MO_count 9 = .ok (.iload_n 1, 1) := by decide +kernel
theorem d_MO_count_10 : decode b_MO_count 10 = .ok (.iconst 1, 1) := by decide +kernel
theorem d_MO_count_11 : decode b_MO_count 11 = .ok (.if_icmp .le 11, 3) := by decide +kernel
theorem d_MO_count_14 : decode b_MO_count 14 = .ok (.aload_n 0, 1) := by decide +kernel
theorem d_MO_count_15 : decode b_MO_count 15 = .ok (.iconst 1, 1) := by decide +kernel
theorem d_MO_count_16 : decode b_MO_count 16 = .ok (.invokevirtual 109, 3) := by decide +kernel
theorem d_MO_count_19 : decode b_MO_count 19 = .ok (.goto 18, 3) := by decide +kernel
theorem d_MO_count_22 : decode b_MO_count 22 = .ok (.iload_n 1, 1) := by decide +kernel
theorem d_MO_count_23 : decode b_MO_count 23 = .ok (.ifCond .ne 10, 3) := by decide +kernel
theorem d_MO_count_26 : decode b_MO_count 26 = .ok (.aload_n 0, 1) := by decide +kernel
theorem d_MO_count_27 : decode b_MO_count 27 = .ok (.getfield 112, 3) := by decide +kernel
theorem d_MO_count_30 : decode b_MO_count 30 = .ok (.goto 7, 3) := by decide +kernel
theorem d_MO_count_33 : decode b_MO_count 33 = .ok (.aload_n 0, 1) := by decide +kernel
theorem d_MO_count_34 : decode b_MO_count 34 = .ok (.getfield 118, 3) := by decide +kernel
theorem d_MO_count_37 : decode b_MO_count 37 = .ok (.ireturn, 1) := by decide +kernel
end
section
theorem d_LW_feed_0 : decode b_LW_feed 0 = .ok (.aload 6, 2) := by decide +kernel
theorem d_LW_feed_2 : decode b_LW_feed 2 = .ok (.iconst 0, 1) := by decide +kernel
theorem d_LW_feed_3 : decode b_LW_feed 3 = .ok (.aload_n 0, 1) := by decide +kernel
theorem d_LW_feed_4 : decode b_LW_feed 4 = .ok (.iload_n 1, 1) := by decide +kernel
theorem d_LW_feed_5 : decode b_LW_feed 5 = .ok (.iload_n 2, 1) := by decide +kernel
theorem d_LW_feed_6 : decode b_LW_feed 6 = .ok (.iload_n 3, 1) := by decide +kernel
theorem d_LW_feed_7 : decode b_LW_feed 7 = .ok (.iload 4, 2) := by decide +kernel
theorem d_LW_feed_9 : decode b_LW_feed 9 = .ok (.iload 5, 2) := by decide +kernel
theorem d_LW_feed_11 : decode b_LW_feed 11 = .ok (.invokevirtual 7, 3) := by decide +kernel
theorem d_LW_feed_14 : decode b_LW_feed 14 = .ok (.i2l, 1) := by decide +kernel
theorem d_LW_feed_15 : decode b_LW_feed 15 = .ok (.lastore, 1) := by decide +kernel
theorem d_LW_feed_16 : decode b_LW_feed 16 = .ok (.goto 7, 3) := by decide +kernel
theorem d_LW_feed_19 : decode b_LW_feed 19 = .ok (.astore 7, 2) := by decide +kernel
theorem d_LW_feed_21 : decode b_LW_feed 21 = .ok (.iconst 1, 1) := by decide +kernel
theorem d_LW_feed_22 : decode b_LW_feed 22 = .ok (.ireturn, 1) := by decide +kernel
theorem d_LW_feed_23 : decode b_LW_feed 23 = .ok (.iconst 0, 1) := by decide +kernel
theorem d_LW_feed_24 : decode b_LW_feed 24 = .ok (.ireturn, 1) := by decide +kernel
theorem d_LW_end_0 : decode b_LW_end 0 = .ok (.aload_n 2, 1) := by decide +kernel
theorem d_LW_end_1 : decode b_LW_end 1 = .ok (.iconst 0, 1) := by decide +kernel
theorem d_LW_end_2 : decode b_LW_end 2 = .ok (.aload_n 0, 1) := by decide +kernel
theorem d_LW_end_3 : decode b_LW_end 3 = .ok (.iload_n 1, 1) := by decide +kernel
theorem d_LW_end_4 : decode b_LW_end 4 = .ok (.invokevirtual 15, 3) := by decide +kernel
theorem d_LW_end_7 : decode b_LW_end 7 = .ok (.i2l, 1) := by decide +kernel
theorem d_LW_end_8 : decode b_LW_end 8 = .ok (.lastore, 1) := by decide +kernel
theorem d_LW_end_9 : decode b_LW_end 9 = .ok (.goto 6, 3) := by decide +kernel
theorem d_LW_end_12 : decode b_LW_end 12 = .ok (.astore_n 3, 1) := by decide +kernel
theorem d_LW_end_13 : decode b_LW_end 13 = .ok (.iconst 1, 1) := by decide +kernel
theorem d_LW_end_14 : decode b_LW_end 14 = .ok (.ireturn, 1) := by decide +kernel
theorem d_LW_end_15 : decode b_LW_end 15 = .ok (.iconst 0, 1) := by decide +kernel
theorem d_LW_end_16 : decode b_LW_end 16 = .ok (.ireturn, 1) := by decide +kernel
theorem d_LW_unpack_0 : decode b_LW_unpack 0 = .ok (.aload_n 2, 1) := by decide +kernel
theorem d_LW_unpack_1 : decode b_LW_unpack 1 = .ok (.iconst 0, 1) := by decide +kernel
theorem d_LW_unpack_2 : decode b_LW_unpack 2 = .ok (.aload_n 0, 1) := by decide +kernel
theorem d_LW_unpack_3 : decode b_LW_unpack 3 = .ok (.iload_n 1, 1) := by decide +kernel
theorem d_LW_unpack_4 : decode b_LW_unpack 4 = .ok (.invokevirtual 21, 3) := by decide +kernel
theorem d_LW_unpack_7 : decode b_LW_unpack 7 = .ok (.i2l, 1) := by decide +kernel
theorem d_LW_unpack_8 : decode b_LW_unpack 8 = .ok (.lastore, 1) := by decide +kernel
theorem d_LW_unpack_9 : decode b_LW_unpack 9 = .ok (.goto 12, 3) := by decide +kernel
theorem d_LW_unpack_12 : decode b_LW_unpack 12 = .ok (.astore_n 3, 1) := by decide +kernel
theorem d_LW_unpack_13 : decode b_LW_unpack 13 = .ok (.iconst 1, 1) := by decide +kernel
theorem d_LW_unpack_14 : decode b_LW_unpack 14 = .ok (.ireturn, 1) := by decide +kernel
theorem d_LW_unpack_15 : decode b_LW_unpack 15 = .ok (.astore_n 3, 1) := by decide +kernel
theorem d_LW_unpack_16 : decode b_LW_unpack 16 = .ok (.iconst 2, 1) := by decide +kernel
theorem d_LW_unpack_17 : decode b_LW_unpack 17 = .ok (.ireturn, 1) := by decide +kernel
theorem d_LW_unpack_18 : decode b_LW_unpack 18 = .ok (.astore_n 3, 1) := by decide +kernel
theorem d_LW_unpack_19 : decode b_LW_unpack 19 = .ok (.iconst 3, 1) := by decide +kernel
theorem d_LW_unpack_20 : decode b_LW_unpack 20 = .ok (.ireturn, 1) := by decide +kernel
theorem d_LW_unpack_21 : decode b_LW_unpack 21 = .ok (.iconst 0, 1) := by decide +kernel
theorem d_LW_unpack_22 : decode b_LW_unpack 22 = .ok (.ireturn, 1) := by decide +kernel
theorem d_LW_pack_0 : decode b_LW_pack 0 = .ok (.aload_n 2, 1) := by decide +kernel
theorem d_LW_pack_1 : decode b_LW_pack 1 = .ok (.iconst 0, 1) := by decide +kernel
theorem d_LW_pack_2 : decode b_LW_pack 2 = .ok (.aload_n 0, 1) := by decide +kernel
theorem d_LW_pack_3 : decode b_LW_pack 3 = .ok (.iload_n 1, 1) := by decide +kernel
theorem d_LW_pack_4 : decode b_LW_pack 4 = .ok (.invokevirtual 26, 3) := by decide +kernel
theorem d_LW_pack_7 : decode b_LW_pack 7 = .ok (.i2l, 1) := by decide +kernel
theorem d_LW_pack_8 : decode b_LW_pack 8 = .ok (.lastore, 1) := by decide +kernel
theorem d_LW_pack_9 : decode b_LW_pack 9 = .ok (.goto 12, 3) := by decide +kernel
theorem d_LW_pack_12 : decode b_LW_pack 12 = .ok (.astore_n 3, 1) := by decide +kernel
theorem d_LW_pack_13 : decode b_LW_pack 13 = .ok (.iconst 1, 1) := by decide +kernel
theorem d_LW_pack_14 : decode b_LW_pack 14 = .ok (.ireturn, 1) := by decide +kernel
theorem d_LW_pack_15 : decode b_LW_pack 15 = .ok (.astore_n 3, 1) := by decide +kernel
theorem d_LW_pack_16 : decode b_LW_pack 16 = .ok (.iconst 2, 1) := by decide +kernel
theorem d_LW_pack_17 : decode b_LW_pack 17 = .ok (.ireturn, 1) := by decide +kernel
theorem d_LW_pack_18 : decode b_LW_pack 18 = .ok (.astore_n 3, 1) := by decide +kernel
theorem d_LW_pack_19 : decode b_LW_pack 19 = .ok (.iconst 3, 1) := by decide +kernel
theorem d_LW_pack_20 : decode b_LW_pack 20 = .ok (.ireturn, 1) := by decide +kernel
theorem d_LW_pack_21 : decode b_LW_pack 21 = .ok (.iconst 0, 1) := by decide +kernel
theorem d_LW_pack_22 : decode b_LW_pack 22 = .ok (.ireturn, 1) := by decide +kernel
theorem d_LW_mask_0 : decode b_LW_mask 0 = .ok (.aload_n 0, 1) := by decide +kernel
theorem d_LW_mask_1 : decode b_LW_mask 1 = .ok (.iload_n 1, 1) := by decide +kernel
theorem d_LW_mask_2 : decode b_LW_mask 2 = .ok (.invokevirtual 29, 3) := by decide +kernel
theorem d_LW_mask_5 : decode b_LW_mask 5 = .ok (.goto 6, 3) := by decide +kernel
theorem d_LW_mask_8 : decode b_LW_mask 8 = .ok (.astore_n 2, 1) := by decide +kernel
theorem d_LW_mask_9 : decode b_LW_mask 9 = .ok (.iconst 1, 1) := by decide +kernel
theorem d_LW_mask_10 : decode b_LW_mask 10 = .ok (.ireturn, 1) := by decide +kernel
theorem d_LW_mask_11 : decode b_LW_mask 11 = .ok (.iconst 0, 1) := by decide +kernel
theorem d_LW_mask_12 : decode b_LW_mask 12 = .ok (.ireturn, 1) := by decide +kernel
theorem d_LW_word_0 : decode b_LW_word 0 = .ok (.aload_n 2, 1) := by decide +kernel
theorem d_LW_word_1 : decode b_LW_word 1 = .ok (.iconst 0, 1) := by decide +kernel
theorem d_LW_word_2 : decode b_LW_word 2 = .ok (.aload_n 0, 1) := by decide +kernel
theorem d_LW_word_3 : decode b_LW_word 3 = .ok (.iload_n 1, 1) := by decide +kernel
theorem d_LW_word_4 : decode b_LW_word 4 = .ok (.invokevirtual 33, 3) := by decide +kernel
theorem d_LW_word_7 : decode b_LW_word 7 = .ok (.lastore, 1) := by decide +kernel
theorem d_LW_word_8 : decode b_LW_word 8 = .ok (.goto 6, 3) := by decide +kernel
theorem d_LW_word_11 : decode b_LW_word 11 = .ok (.astore_n 3, 1) := by decide +kernel
theorem d_LW_word_12 : decode b_LW_word 12 = .ok (.iconst 1, 1) := by decide +kernel
theorem d_LW_word_13 : decode b_LW_word 13 = .ok (.ireturn, 1) := by decide +kernel
theorem d_LW_word_14 : decode b_LW_word 14 = .ok (.iconst 0, 1) := by decide +kernel
theorem d_LW_word_15 : decode b_LW_word 15 = .ok (.ireturn, 1) := by decide +kernel
theorem d_LW_count_0 : decode b_LW_count 0 = .ok (.aload_n 2, 1) := by decide +kernel
theorem d_LW_count_1 : decode b_LW_count 1 = .ok (.iconst 0, 1) := by decide +kernel
theorem d_LW_count_2 : decode b_LW_count 2 = .ok (.aload_n 0, 1) := by decide +kernel
theorem d_LW_count_3 : decode b_LW_count 3 = .ok (.iload_n 1, 1) := by decide +kernel
theorem d_LW_count_4 : decode b_LW_count 4 = .ok (.invokevirtual 37, 3) := by decide +kernel
theorem d_LW_count_7 : decode b_LW_count 7 = .ok (.i2l, 1) := by decide +kernel
theorem d_LW_count_8 : decode b_LW_count 8 = .ok (.lastore, 1) := by decide +kernel
theorem d_LW_count_9 : decode b_LW_count 9 = .ok (.goto 6, 3) := by decide +kernel
theorem d_LW_count_12 : decode b_LW_count 12 = .ok (.astore_n 3, 1) := by decide +kernel
theorem d_LW_count_13 : decode b_LW_count 13 = .ok (.iconst 1, 1) := by decide +kernel
theorem d_LW_count_14 : decode b_LW_count 14 = .ok (.ireturn, 1) := by decide +kernel
theorem d_LW_count_15 : decode b_LW_count 15 = .ok (.iconst 0, 1) := by decide +kernel
theorem d_LW_count_16 : decode b_LW_count 16 = .ok (.ireturn, 1) := by decide +kernel
theorem d_LW_law_0 : decode b_LW_law 0 = .ok (.new 8, 3) := by decide +kernel
theorem d_LW_law_3 : decode b_LW_law 3 = .ok (.dup, 1) := by decide +kernel
theorem d_LW_law_4 : decode b_LW_law 4 = .ok (.invokespecial 40, 3) := by decide +kernel
theorem d_LW_law_7 : decode b_LW_law 7 = .ok (.astore_n 1, 1) := by decide +kernel
theorem d_LW_law_8 : decode b_LW_law 8 = .ok (.new 41, 3) := by decide +kernel
theorem d_LW_law_11 : decode b_LW_law 11 = .ok (.dup, 1) := by decide +kernel
theorem d_LW_law_12 : decode b_LW_law 12 = .ok (.invokespecial 43, 3) := by decide +kernel
theorem d_LW_law_15 : decode b_LW_law 15 = .ok (.astore_n 2, 1) := by decide +kernel
theorem d_LW_law_16 : decode b_LW_law 16 = .ok (.iconst 1, 1) := by decide +kernel
theorem d_LW_law_17 : decode b_LW_law 17 = .ok (.newarray .long, 2) := by decide +kernel
theorem d_LW_law_19 : decode b_LW_law 19 = .ok (.astore_n 3, 1) := by decide +kernel
theorem d_LW_law_20 : decode b_LW_law 20 = .ok (.iconst 0, 1) := by decide +kernel
theorem d_LW_law_21 : decode b_LW_law 21 = .ok (.istore 4, 2) := by decide +kernel
theorem d_LW_law_23 : decode b_LW_law 23 = .ok (.iload 4, 2) := by decide +kernel
theorem d_LW_law_25 : decode b_LW_law 25 = .ok (.aload_n 0, 1) := by decide +kernel
theorem d_LW_law_26 : decode b_LW_law 26 = .ok (.arraylength, 1) := by decide +kernel
theorem d_LW_law_27 : decode b_LW_law 27 = .ok (.bipush 6, 2) := by decide +kernel
theorem d_LW_law_29 : decode b_LW_law 29 = .ok (.isub, 1) := by decide +kernel
theorem d_LW_law_30 : decode b_LW_law 30 = .ok (.if_icmp .gt 496, 3) := by decide +kernel
theorem d_LW_law_33 : decode b_LW_law 33 = .ok (.aload_n 0, 1) := by decide +kernel
theorem d_LW_law_34 : decode b_LW_law 34 = .ok (.iload 4, 2) := by decide +kernel
theorem d_LW_law_36 : decode b_LW_law 36 = .ok (.iaload, 1) := by decide +kernel
theorem d_LW_law_37 : decode b_LW_law 37 = .ok (.bipush 7, 2) := by decide +kernel
theorem d_LW_law_39 : decode b_LW_law 39 = .ok (.iand, 1) := by decide +kernel
theorem d_LW_law_88 : decode b_LW_law 88 = .ok (.aload_n 1, 1) := by decide +kernel
theorem d_LW_law_89 : decode b_LW_law 89 = .ok (.aload_n 0, 1) := by decide +kernel
theorem d_LW_law_90 : decode b_LW_law 90 = .ok (.iload 4, 2) := by decide +kernel
theorem d_LW_law_92 : decode b_LW_law 92 = .ok (.iconst 1, 1) := by decide +kernel
theorem d_LW_law_93 : decode b_LW_law 93 = .ok (.iadd, 1) := by decide +kernel
theorem d_LW_law_94 : decode b_LW_law 94 = .ok (.iaload, 1) := by decide +kernel
theorem d_LW_law_95 : decode b_LW_law 95 = .ok (.aload_n 0, 1) := by decide +kernel
theorem d_LW_law_96 : decode b_LW_law 96 = .ok (.iload 4, 2) := by decide +kernel
theorem d_LW_law_98 : decode b_LW_law 98 = .ok (.iconst 2, 1) := by decide +kernel
theorem d_LW_law_99 : decode b_LW_law 99 = .ok (.iadd, 1) := by decide +kernel
theorem d_LW_law_100 : decode b_LW_law 100 = .ok (.iaload, 1) := by decide +kernel
theorem d_LW_law_101 : decode b_LW_law 101 = .ok (.aload_n 0, 1) := by decide +kernel
theorem d_LW_law_102 : decode b_LW_law 102 = .ok (.iload 4, 2) := by decide +kernel
theorem d_LW_law_104 : decode b_LW_law 104 = .ok (.iconst 3, 1) := by decide +kernel
theorem d_LW_law_105 : decode b_LW_law 105 = .ok (.iadd, 1) := by decide +kernel
theorem d_LW_law_106 : decode b_LW_law 106 = .ok (.iaload, 1) := by decide +kernel
theorem d_LW_law_107 : decode b_LW_law 107 = .ok (.aload_n 0, 1) := by decide +kernel
theorem d_LW_law_108 : decode b_LW_law 108 = .ok (.iload 4, 2) := by decide +kernel
theorem d_LW_law_110 : decode b_LW_law 110 = .ok (.iconst 4, 1) := by decide +kernel
theorem d_LW_law_111 : decode b_LW_law 111 = .ok (.iadd, 1) := by decide +kernel
theorem d_LW_law_112 : decode b_LW_law 112 = .ok (.iaload, 1) := by decide +kernel
theorem d_LW_law_113 : decode b_LW_law 113 = .ok (.aload_n 0, 1) := by decide +kernel
theorem d_LW_law_114 : decode b_LW_law 114 = .ok (.iload 4, 2) := by decide +kernel
theorem d_LW_law_116 : decode b_LW_law 116 = .ok (.iconst 5, 1) := by decide +kernel
theorem d_LW_law_117 : decode b_LW_law 117 = .ok (.iadd, 1) := by decide +kernel
theorem d_LW_law_118 : decode b_LW_law 118 = .ok (.iaload, 1) := by decide +kernel
theorem d_LW_law_119 : decode b_LW_law 119 = .ok (.aload_n 3, 1) := by decide +kernel
theorem d_LW_law_120 : decode b_LW_law 120 = .ok (.invokestatic 44, 3) := by decide +kernel
theorem d_LW_law_123 : decode b_LW_law 123 = .ok (.istore 5, 2) := by decide +kernel
theorem d_LW_law_125 : decode b_LW_law 125 = .ok (.aload_n 2, 1) := by decide +kernel
theorem d_LW_law_126 : decode b_LW_law 126 = .ok (.aload_n 0, 1) := by decide +kernel
theorem d_LW_law_127 : decode b_LW_law 127 = .ok (.iload 4, 2) := by decide +kernel
theorem d_LW_law_129 : decode b_LW_law 129 = .ok (.iconst 1, 1) := by decide +kernel
theorem d_LW_law_130 : decode b_LW_law 130 = .ok (.iadd, 1) := by decide +kernel
theorem d_LW_law_131 : decode b_LW_law 131 = .ok (.iaload, 1) := by decide +kernel
theorem d_LW_law_132 : decode b_LW_law 132 = .ok (.aload_n 0, 1) := by decide +kernel
theorem d_LW_law_133 : decode b_LW_law 133 = .ok (.iload 4, 2) := by decide +kernel
theorem d_LW_law_135 : decode b_LW_law 135 = .ok (.iconst 2, 1) := by decide +kernel
theorem d_LW_law_136 : decode b_LW_law 136 = .ok (.iadd, 1) := by decide +kernel
theorem d_LW_law_137 : decode b_LW_law 137 = .ok (.iaload, 1) := by decide +kernel
theorem d_LW_law_138 : decode b_LW_law 138 = .ok (.aload_n 0, 1) := by decide +kernel
theorem d_LW_law_139 : decode b_LW_law 139 = .ok (.iload 4, 2) := by decide +kernel
theorem d_LW_law_141 : decode b_LW_law 141 = .ok (.iconst 3, 1) := by decide +kernel
theorem d_LW_law_142 : decode b_LW_law 142 = .ok (.iadd, 1) := by decide +kernel
theorem d_LW_law_143 : decode b_LW_law 143 = .ok (.iaload, 1) := by decide +kernel
theorem d_LW_law_144 : decode b_LW_law 144 = .ok (.aload_n 0, 1) := by decide +kernel
theorem d_LW_law_145 : decode b_LW_law 145 = .ok (.iload 4, 2) := by decide +kernel
theorem d_LW_law_147 : decode b_LW_law 147 = .ok (.iconst 4, 1) := by decide +kernel
theorem d_LW_law_148 : decode b_LW_law 148 = .ok (.iadd, 1) := by decide +kernel
theorem d_LW_law_149 : decode b_LW_law 149 = .ok (.iaload, 1) := by decide +kernel
theorem d_LW_law_150 : decode b_LW_law 150 = .ok (.aload_n 0, 1) := by decide +kernel
theorem d_LW_law_151 : decode b_LW_law 151 = .ok (.iload 4, 2) := by decide +kernel
theorem d_LW_law_153 : decode b_LW_law 153 = .ok (.iconst 5, 1) := by decide +kernel
theorem d_LW_law_154 : decode b_LW_law 154 = .ok (.iadd, 1) := by decide +kernel
theorem d_LW_law_155 : decode b_LW_law 155 = .ok (.iaload, 1) := by decide +kernel
theorem d_LW_law_156 : decode b_LW_law 156 = .ok (.invokevirtual 49, 3) := by decide +kernel
theorem d_LW_law_159 : decode b_LW_law 159 = .ok (.istore 6, 2) := by decide +kernel
theorem d_LW_law_161 : decode b_LW_law 161 = .ok (.aload_n 2, 1) := by decide +kernel
theorem d_LW_law_162 : decode b_LW_law 162 = .ok (.invokevirtual 50, 3) := by decide +kernel
theorem d_LW_law_165 : decode b_LW_law 165 = .ok (.iload 5, 2) := by decide +kernel
theorem d_LW_law_167 : decode b_LW_law 167 = .ok (.if_icmp .eq 5, 3) := by decide +kernel
theorem d_LW_law_170 : decode b_LW_law 170 = .ok (.iconst 0, 1) := by decide +kernel
theorem d_LW_law_171 : decode b_LW_law 171 = .ok (.ireturn, 1) := by decide +kernel
theorem d_LW_law_172 : decode b_LW_law 172 = .ok (.iload 5, 2) := by decide +kernel
theorem d_LW_law_174 : decode b_LW_law 174 = .ok (.ifCond .ne 15, 3) := by decide +kernel
theorem d_LW_law_177 : decode b_LW_law 177 = .ok (.aload_n 3, 1) := by decide +kernel
theorem d_LW_law_178 : decode b_LW_law 178 = .ok (.iconst 0, 1) := by decide +kernel
theorem d_LW_law_179 : decode b_LW_law 179 = .ok (.laload, 1) := by decide +kernel
theorem d_LW_law_180 : decode b_LW_law 180 = .ok (.iload 6, 2) := by decide +kernel
theorem d_LW_law_182 : decode b_LW_law 182 = .ok (.i2l, 1) := by decide +kernel
theorem d_LW_law_183 : decode b_LW_law 183 = .ok (.lcmp, 1) := by decide +kernel
theorem d_LW_law_184 : decode b_LW_law 184 = .ok (.ifCond .eq 5, 3) := by decide +kernel
theorem d_LW_law_187 : decode b_LW_law 187 = .ok (.iconst 0, 1) := by decide +kernel
theorem d_LW_law_188 : decode b_LW_law 188 = .ok (.ireturn, 1) := by decide +kernel
theorem d_LW_law_189 : decode b_LW_law 189 = .ok (.goto 331, 3) := by decide +kernel
theorem d_LW_law_192 : decode b_LW_law 192 = .ok (.aload_n 1, 1) := by decide +kernel
theorem d_LW_law_193 : decode b_LW_law 193 = .ok (.aload_n 0, 1) := by decide +kernel
theorem d_LW_law_194 : decode b_LW_law 194 = .ok (.iload 4, 2) := by decide +kernel
theorem d_LW_law_196 : decode b_LW_law 196 = .ok (.iconst 1, 1) := by decide +kernel
theorem d_LW_law_197 : decode b_LW_law 197 = .ok (.iadd, 1) := by decide +kernel
theorem d_LW_law_198 : decode b_LW_law 198 = .ok (.iaload, 1) := by decide +kernel
theorem d_LW_law_199 : decode b_LW_law 199 = .ok (.aload_n 3, 1) := by decide +kernel
theorem d_LW_law_200 : decode b_LW_law 200 = .ok (.invokestatic 54, 3) := by decide +kernel
theorem d_LW_law_203 : decode b_LW_law 203 = .ok (.istore 5, 2) := by decide +kernel
theorem d_LW_law_205 : decode b_LW_law 205 = .ok (.aload_n 2, 1) := by decide +kernel
theorem d_LW_law_206 : decode b_LW_law 206 = .ok (.aload_n 0, 1) := by decide +kernel
theorem d_LW_law_207 : decode b_LW_law 207 = .ok (.iload 4, 2) := by decide +kernel
theorem d_LW_law_209 : decode b_LW_law 209 = .ok (.iconst 1, 1) := by decide +kernel
theorem d_LW_law_210 : decode b_LW_law 210 = .ok (.iadd, 1) := by decide +kernel
theorem d_LW_law_211 : decode b_LW_law 211 = .ok (.iaload, 1) := by decide +kernel
theorem d_LW_law_212 : decode b_LW_law 212 = .ok (.invokevirtual 57, 3) := by decide +kernel
theorem d_LW_law_215 : decode b_LW_law 215 = .ok (.istore 6, 2) := by decide +kernel
theorem d_LW_law_217 : decode b_LW_law 217 = .ok (.aload_n 2, 1) := by decide +kernel
theorem d_LW_law_218 : decode b_LW_law 218 = .ok (.invokevirtual 50, 3) := by decide +kernel
theorem d_LW_law_221 : decode b_LW_law 221 = .ok (.iload 5, 2) := by decide +kernel
theorem d_LW_law_223 : decode b_LW_law 223 = .ok (.if_icmp .eq 5, 3) := by decide +kernel
theorem d_LW_law_226 : decode b_LW_law 226 = .ok (.iconst 0, 1) := by decide +kernel
theorem d_LW_law_227 : decode b_LW_law 227 = .ok (.ireturn, 1) := by decide +kernel
theorem d_LW_law_228 : decode b_LW_law 228 = .ok (.iload 5, 2) := by decide +kernel
theorem d_LW_law_230 : decode b_LW_law 230 = .ok (.ifCond .ne 15, 3) := by decide +kernel
theorem d_LW_law_233 : decode b_LW_law 233 = .ok (.aload_n 3, 1) := by decide +kernel
theorem d_LW_law_234 : decode b_LW_law 234 = .ok (.iconst 0, 1) := by decide +kernel
theorem d_LW_law_235 : decode b_LW_law 235 = .ok (.laload, 1) := by decide +kernel
theorem d_LW_law_236 : decode b_LW_law 236 = .ok (.iload 6, 2) := by decide +kernel
theorem d_LW_law_238 : decode b_LW_law 238 = .ok (.i2l, 1) := by decide +kernel
theorem d_LW_law_239 : decode b_LW_law 239 = .ok (.lcmp, 1) := by decide +kernel
theorem d_LW_law_240 : decode b_LW_law 240 = .ok (.ifCond .eq 5, 3) := by decide +kernel
theorem d_LW_law_243 : decode b_LW_law 243 = .ok (.iconst 0, 1) := by decide +kernel
theorem d_LW_law_244 : decode b_LW_law 244 = .ok (.ireturn, 1) := by decide +kernel
theorem d_LW_law_245 : decode b_LW_law 245 = .ok (.goto 275, 3) := by decide +kernel
theorem d_LW_law_248 : decode b_LW_law 248 = .ok (.aload_n 1, 1) := by decide +kernel
theorem d_LW_law_249 : decode b_LW_law 249 = .ok (.invokevirtual 58, 3) := by decide +kernel
theorem d_LW_law_252 : decode b_LW_law 252 = .ok (.aload_n 2, 1) := by decide +kernel
theorem d_LW_law_253 : decode b_LW_law 253 = .ok (.invokevirtual 61, 3) := by decide +kernel
theorem d_LW_law_256 : decode b_LW_law 256 = .ok (.if_icmp .eq 264, 3) := by decide +kernel
theorem d_LW_law_259 : decode b_LW_law 259 = .ok (.iconst 0, 1) := by decide +kernel
theorem d_LW_law_260 : decode b_LW_law 260 = .ok (.ireturn, 1) := by decide +kernel
theorem d_LW_law_261 : decode b_LW_law 261 = .ok (.aload_n 1, 1) := by decide +kernel
theorem d_LW_law_262 : decode b_LW_law 262 = .ok (.aload_n 0, 1) := by decide +kernel
theorem d_LW_law_263 : decode b_LW_law 263 = .ok (.iload 4, 2) := by decide +kernel
theorem d_LW_law_265 : decode b_LW_law 265 = .ok (.iconst 1, 1) := by decide +kernel
theorem d_LW_law_266 : decode b_LW_law 266 = .ok (.iadd, 1) := by decide +kernel
theorem d_LW_law_267 : decode b_LW_law 267 = .ok (.iaload, 1) := by decide +kernel
theorem d_LW_law_268 : decode b_LW_law 268 = .ok (.aload_n 3, 1) := by decide +kernel
theorem d_LW_law_269 : decode b_LW_law 269 = .ok (.invokestatic 62, 3) := by decide +kernel
theorem d_LW_law_272 : decode b_LW_law 272 = .ok (.istore 5, 2) := by decide +kernel
theorem d_LW_law_274 : decode b_LW_law 274 = .ok (.aload_n 2, 1) := by decide +kernel
theorem d_LW_law_275 : decode b_LW_law 275 = .ok (.aload_n 0, 1) := by decide +kernel
theorem d_LW_law_276 : decode b_LW_law 276 = .ok (.iload 4, 2) := by decide +kernel
theorem d_LW_law_278 : decode b_LW_law 278 = .ok (.iconst 1, 1) := by decide +kernel
theorem d_LW_law_279 : decode b_LW_law 279 = .ok (.iadd, 1) := by decide +kernel
theorem d_LW_law_280 : decode b_LW_law 280 = .ok (.iaload, 1) := by decide +kernel
theorem d_LW_law_281 : decode b_LW_law 281 = .ok (.invokevirtual 64, 3) := by decide +kernel
theorem d_LW_law_284 : decode b_LW_law 284 = .ok (.istore 6, 2) := by decide +kernel
theorem d_LW_law_286 : decode b_LW_law 286 = .ok (.aload_n 2, 1) := by decide +kernel
theorem d_LW_law_287 : decode b_LW_law 287 = .ok (.invokevirtual 50, 3) := by decide +kernel
theorem d_LW_law_290 : decode b_LW_law 290 = .ok (.iload 5, 2) := by decide +kernel
theorem d_LW_law_292 : decode b_LW_law 292 = .ok (.if_icmp .eq 5, 3) := by decide +kernel
theorem d_LW_law_295 : decode b_LW_law 295 = .ok (.iconst 0, 1) := by decide +kernel
theorem d_LW_law_296 : decode b_LW_law 296 = .ok (.ireturn, 1) := by decide +kernel
theorem d_LW_law_297 : decode b_LW_law 297 = .ok (.iload 5, 2) := by decide +kernel
theorem d_LW_law_299 : decode b_LW_law 299 = .ok (.ifCond .ne 15, 3) := by decide +kernel
theorem d_LW_law_302 : decode b_LW_law 302 = .ok (.aload_n 3, 1) := by decide +kernel
theorem d_LW_law_303 : decode b_LW_law 303 = .ok (.iconst 0, 1) := by decide +kernel
theorem d_LW_law_304 : decode b_LW_law 304 = .ok (.laload, 1) := by decide +kernel
theorem d_LW_law_305 : decode b_LW_law 305 = .ok (.iload 6, 2) := by decide +kernel
theorem d_LW_law_307 : decode b_LW_law 307 = .ok (.i2l, 1) := by decide +kernel
theorem d_LW_law_308 : decode b_LW_law 308 = .ok (.lcmp, 1) := by decide +kernel
theorem d_LW_law_309 : decode b_LW_law 309 = .ok (.ifCond .eq 5, 3) := by decide +kernel
theorem d_LW_law_312 : decode b_LW_law 312 = .ok (.iconst 0, 1) := by decide +kernel
theorem d_LW_law_313 : decode b_LW_law 313 = .ok (.ireturn, 1) := by decide +kernel
theorem d_LW_law_314 : decode b_LW_law 314 = .ok (.goto 206, 3) := by decide +kernel
theorem d_LW_law_317 : decode b_LW_law 317 = .ok (.aload_n 1, 1) := by decide +kernel
theorem d_LW_law_318 : decode b_LW_law 318 = .ok (.aload_n 0, 1) := by decide +kernel
theorem d_LW_law_319 : decode b_LW_law 319 = .ok (.iload 4, 2) := by decide +kernel
theorem d_LW_law_321 : decode b_LW_law 321 = .ok (.iconst 1, 1) := by decide +kernel
theorem d_LW_law_322 : decode b_LW_law 322 = .ok (.iadd, 1) := by decide +kernel
theorem d_LW_law_323 : decode b_LW_law 323 = .ok (.iaload, 1) := by decide +kernel
theorem d_LW_law_324 : decode b_LW_law 324 = .ok (.aload_n 3, 1) := by decide +kernel
theorem d_LW_law_325 : decode b_LW_law 325 = .ok (.invokestatic 65, 3) := by decide +kernel
theorem d_LW_law_328 : decode b_LW_law 328 = .ok (.istore 5, 2) := by decide +kernel
theorem d_LW_law_330 : decode b_LW_law 330 = .ok (.aload_n 2, 1) := by decide +kernel
theorem d_LW_law_331 : decode b_LW_law 331 = .ok (.aload_n 0, 1) := by decide +kernel
theorem d_LW_law_332 : decode b_LW_law 332 = .ok (.iload 4, 2) := by decide +kernel
theorem d_LW_law_334 : decode b_LW_law 334 = .ok (.iconst 1, 1) := by decide +kernel
theorem d_LW_law_335 : decode b_LW_law 335 = .ok (.iadd, 1) := by decide +kernel
theorem d_LW_law_336 : decode b_LW_law 336 = .ok (.iaload, 1) := by decide +kernel
theorem d_LW_law_337 : decode b_LW_law 337 = .ok (.invokevirtual 67, 3) := by decide +kernel
theorem d_LW_law_340 : decode b_LW_law 340 = .ok (.istore 6, 2) := by decide +kernel
theorem d_LW_law_342 : decode b_LW_law 342 = .ok (.aload_n 2, 1) := by decide +kernel
theorem d_LW_law_343 : decode b_LW_law 343 = .ok (.invokevirtual 50, 3) := by decide +kernel
theorem d_LW_law_346 : decode b_LW_law 346 = .ok (.iload 5, 2) := by decide +kernel
theorem d_LW_law_348 : decode b_LW_law 348 = .ok (.if_icmp .eq 5, 3) := by decide +kernel
theorem d_LW_law_351 : decode b_LW_law 351 = .ok (.iconst 0, 1) := by decide +kernel
theorem d_LW_law_352 : decode b_LW_law 352 = .ok (.ireturn, 1) := by decide +kernel
theorem d_LW_law_353 : decode b_LW_law 353 = .ok (.iload 5, 2) := by decide +kernel
theorem d_LW_law_355 : decode b_LW_law 355 = .ok (.ifCond .ne 15, 3) := by decide +kernel
theorem d_LW_law_358 : decode b_LW_law 358 = .ok (.aload_n 3, 1) := by decide +kernel
theorem d_LW_law_359 : decode b_LW_law 359 = .ok (.iconst 0, 1) := by decide +kernel
theorem d_LW_law_360 : decode b_LW_law 360 = .ok (.laload, 1) := by decide +kernel
theorem d_LW_law_361 : decode b_LW_law 361 = .ok (.iload 6, 2) := by decide +kernel
theorem d_LW_law_363 : decode b_LW_law 363 = .ok (.i2l, 1) := by decide +kernel
theorem d_LW_law_364 : decode b_LW_law 364 = .ok (.lcmp, 1) := by decide +kernel
theorem d_LW_law_365 : decode b_LW_law 365 = .ok (.ifCond .eq 5, 3) := by decide +kernel
theorem d_LW_law_368 : decode b_LW_law 368 = .ok (.iconst 0, 1) := by decide +kernel
theorem d_LW_law_369 : decode b_LW_law 369 = .ok (.ireturn, 1) := by decide +kernel
theorem d_LW_law_370 : decode b_LW_law 370 = .ok (.goto 150, 3) := by decide +kernel
theorem d_LW_law_373 : decode b_LW_law 373 = .ok (.aload_n 1, 1) := by decide +kernel
theorem d_LW_law_374 : decode b_LW_law 374 = .ok (.aload_n 0, 1) := by decide +kernel
theorem d_LW_law_375 : decode b_LW_law 375 = .ok (.iload 4, 2) := by decide +kernel
theorem d_LW_law_377 : decode b_LW_law 377 = .ok (.iconst 1, 1) := by decide +kernel
theorem d_LW_law_378 : decode b_LW_law 378 = .ok (.iadd, 1) := by decide +kernel
theorem d_LW_law_379 : decode b_LW_law 379 = .ok (.iaload, 1) := by decide +kernel
theorem d_LW_law_380 : decode b_LW_law 380 = .ok (.invokestatic 68, 3) := by decide +kernel
theorem d_LW_law_383 : decode b_LW_law 383 = .ok (.istore 5, 2) := by decide +kernel
theorem d_LW_law_385 : decode b_LW_law 385 = .ok (.aload_n 2, 1) := by decide +kernel
theorem d_LW_law_386 : decode b_LW_law 386 = .ok (.aload_n 0, 1) := by decide +kernel
theorem d_LW_law_387 : decode b_LW_law 387 = .ok (.iload 4, 2) := by decide +kernel
theorem d_LW_law_389 : decode b_LW_law 389 = .ok (.iconst 1, 1) := by decide +kernel
theorem d_LW_law_390 : decode b_LW_law 390 = .ok (.iadd, 1) := by decide +kernel
theorem d_LW_law_391 : decode b_LW_law 391 = .ok (.iaload, 1) := by decide +kernel
theorem d_LW_law_392 : decode b_LW_law 392 = .ok (.invokevirtual 71, 3) := by decide +kernel
theorem d_LW_law_395 : decode b_LW_law 395 = .ok (.aload_n 2, 1) := by decide +kernel
theorem d_LW_law_396 : decode b_LW_law 396 = .ok (.invokevirtual 50, 3) := by decide +kernel
theorem d_LW_law_399 : decode b_LW_law 399 = .ok (.iload 5, 2) := by decide +kernel
theorem d_LW_law_401 : decode b_LW_law 401 = .ok (.if_icmp .eq 5, 3) := by decide +kernel
theorem d_LW_law_404 : decode b_LW_law 404 = .ok (.iconst 0, 1) := by decide +kernel
theorem d_LW_law_405 : decode b_LW_law 405 = .ok (.ireturn, 1) := by decide +kernel
theorem d_LW_law_406 : decode b_LW_law 406 = .ok (.goto 114, 3) := by decide +kernel
theorem d_LW_law_409 : decode b_LW_law 409 = .ok (.aload_n 1, 1) := by decide +kernel
theorem d_LW_law_410 : decode b_LW_law 410 = .ok (.aload_n 0, 1) := by decide +kernel
theorem d_LW_law_411 : decode b_LW_law 411 = .ok (.iload 4, 2) := by decide +kernel
theorem d_LW_law_413 : decode b_LW_law 413 = .ok (.iconst 1, 1) := by decide +kernel
theorem d_LW_law_414 : decode b_LW_law 414 = .ok (.iadd, 1) := by decide +kernel
theorem d_LW_law_415 : decode b_LW_law 415 = .ok (.iaload, 1) := by decide +kernel
theorem d_LW_law_416 : decode b_LW_law 416 = .ok (.aload_n 3, 1) := by decide +kernel
theorem d_LW_law_417 : decode b_LW_law 417 = .ok (.invokestatic 72, 3) := by decide +kernel
theorem d_LW_law_420 : decode b_LW_law 420 = .ok (.istore 5, 2) := by decide +kernel
theorem d_LW_law_422 : decode b_LW_law 422 = .ok (.aload_n 2, 1) := by decide +kernel
theorem d_LW_law_423 : decode b_LW_law 423 = .ok (.aload_n 0, 1) := by decide +kernel
theorem d_LW_law_424 : decode b_LW_law 424 = .ok (.iload 4, 2) := by decide +kernel
theorem d_LW_law_426 : decode b_LW_law 426 = .ok (.iconst 1, 1) := by decide +kernel
theorem d_LW_law_427 : decode b_LW_law 427 = .ok (.iadd, 1) := by decide +kernel
theorem d_LW_law_428 : decode b_LW_law 428 = .ok (.iaload, 1) := by decide +kernel
theorem d_LW_law_429 : decode b_LW_law 429 = .ok (.invokevirtual 74, 3) := by decide +kernel
theorem d_LW_law_432 : decode b_LW_law 432 = .ok (.lstore 6, 2) := by decide +kernel
theorem d_LW_law_434 : decode b_LW_law 434 = .ok (.aload_n 2, 1) := by decide +kernel
theorem d_LW_law_435 : decode b_LW_law 435 = .ok (.invokevirtual 50, 3) := by decide +kernel
theorem d_LW_law_438 : decode b_LW_law 438 = .ok (.iload 5, 2) := by decide +kernel
theorem d_LW_law_440 : decode b_LW_law 440 = .ok (.if_icmp .eq 5, 3) := by decide +kernel
theorem d_LW_law_443 : decode b_LW_law 443 = .ok (.iconst 0, 1) := by decide +kernel
theorem d_LW_law_444 : decode b_LW_law 444 = .ok (.ireturn, 1) := by decide +kernel
theorem d_LW_law_445 : decode b_LW_law 445 = .ok (.iload 5, 2) := by decide +kernel
theorem d_LW_law_447 : decode b_LW_law 447 = .ok (.ifCond .ne 14, 3) := by decide +kernel
theorem d_LW_law_450 : decode b_LW_law 450 = .ok (.aload_n 3, 1) := by decide +kernel
theorem d_LW_law_451 : decode b_LW_law 451 = .ok (.iconst 0, 1) := by decide +kernel
theorem d_LW_law_452 : decode b_LW_law 452 = .ok (.laload, 1) := by decide +kernel
theorem d_LW_law_453 : decode b_LW_law 453 = .ok (.lload 6, 2) := by decide +kernel
theorem d_LW_law_455 : decode b_LW_law 455 = .ok (.lcmp, 1) := by decide +kernel
theorem d_LW_law_456 : decode b_LW_law 456 = .ok (.ifCond .eq 5, 3) := by decide +kernel
theorem d_LW_law_459 : decode b_LW_law 459 = .ok (.iconst 0, 1) := by decide +kernel
theorem d_LW_law_460 : decode b_LW_law 460 = .ok (.ireturn, 1) := by decide +kernel
theorem d_LW_law_461 : decode b_LW_law 461 = .ok (.goto 59, 3) := by decide +kernel
theorem d_LW_law_464 : decode b_LW_law 464 = .ok (.aload_n 1, 1) := by decide +kernel
theorem d_LW_law_465 : decode b_LW_law 465 = .ok (.aload_n 0, 1) := by decide +kernel
theorem d_LW_law_466 : decode b_LW_law 466 = .ok (.iload 4, 2) := by decide +kernel
theorem d_LW_law_468 : decode b_LW_law 468 = .ok (.iconst 1, 1) := by decide +kernel
theorem d_LW_law_469 : decode b_LW_law 469 = .ok (.iadd, 1) := by decide +kernel
theorem d_LW_law_470 : decode b_LW_law 470 = .ok (.iaload, 1) := by decide +kernel
theorem d_LW_law_471 : decode b_LW_law 471 = .ok (.aload_n 3, 1) := by decide +kernel
theorem d_LW_law_472 : decode b_LW_law 472 = .ok (.invokestatic 75, 3) := by decide +kernel
theorem d_LW_law_475 : decode b_LW_law 475 = .ok (.istore 5, 2) := by decide +kernel
theorem d_LW_law_477 : decode b_LW_law 477 = .ok (.aload_n 2, 1) := by decide +kernel
theorem d_LW_law_478 : decode b_LW_law 478 = .ok (.aload_n 0, 1) := by decide +kernel
theorem d_LW_law_479 : decode b_LW_law 479 = .ok (.iload 4, 2) := by decide +kernel
theorem d_LW_law_481 : decode b_LW_law 481 = .ok (.iconst 1, 1) := by decide +kernel
theorem d_LW_law_482 : decode b_LW_law 482 = .ok (.iadd, 1) := by decide +kernel
theorem d_LW_law_483 : decode b_LW_law 483 = .ok (.iaload, 1) := by decide +kernel
theorem d_LW_law_484 : decode b_LW_law 484 = .ok (.invokevirtual 77, 3) := by decide +kernel
theorem d_LW_law_487 : decode b_LW_law 487 = .ok (.istore 6, 2) := by decide +kernel
theorem d_LW_law_489 : decode b_LW_law 489 = .ok (.aload_n 2, 1) := by decide +kernel
theorem d_LW_law_490 : decode b_LW_law 490 = .ok (.invokevirtual 50, 3) := by decide +kernel
theorem d_LW_law_493 : decode b_LW_law 493 = .ok (.iload 5, 2) := by decide +kernel
theorem d_LW_law_495 : decode b_LW_law 495 = .ok (.if_icmp .eq 5, 3) := by decide +kernel
theorem d_LW_law_498 : decode b_LW_law 498 = .ok (.iconst 0, 1) := by decide +kernel
theorem d_LW_law_499 : decode b_LW_law 499 = .ok (.ireturn, 1) := by decide +kernel
theorem d_LW_law_500 : decode b_LW_law 500 = .ok (.iload 5, 2) := by decide +kernel
theorem d_LW_law_502 : decode b_LW_law 502 = .ok (.ifCond .ne 15, 3) := by decide +kernel
theorem d_LW_law_505 : decode b_LW_law 505 = .ok (.aload_n 3, 1) := by decide +kernel
theorem d_LW_law_506 : decode b_LW_law 506 = .ok (.iconst 0, 1) := by decide +kernel
theorem d_LW_law_507 : decode b_LW_law 507 = .ok (.laload, 1) := by decide +kernel
theorem d_LW_law_508 : decode b_LW_law 508 = .ok (.iload 6, 2) := by decide +kernel
theorem d_LW_law_510 : decode b_LW_law 510 = .ok (.i2l, 1) := by decide +kernel
theorem d_LW_law_511 : decode b_LW_law 511 = .ok (.lcmp, 1) := by decide +kernel
theorem d_LW_law_512 : decode b_LW_law 512 = .ok (.ifCond .eq 5, 3) := by decide +kernel
theorem d_LW_law_515 : decode b_LW_law 515 = .ok (.iconst 0, 1) := by decide +kernel
theorem d_LW_law_516 : decode b_LW_law 516 = .ok (.ireturn, 1) := by decide +kernel
theorem d_LW_law_517 : decode b_LW_law 517 = .ok (.goto 3, 3) := by decide +kernel
theorem d_LW_law_520 : decode b_LW_law 520 = .ok (.iinc 4 6, 3) := by decide +kernel
theorem d_LW_law_523 : decode b_LW_law 523 = .ok (.goto (-500), 3) := by decide +kernel
theorem d_LW_law_526 : decode b_LW_law 526 = .ok (.iconst 1, 1) := by decide +kernel
theorem d_LW_law_527 : decode b_LW_law 527 = .ok (.ireturn, 1) := by decide +kernel
end
section
set_option maxRecDepth 100000 in
set_option maxHeartbeats 4000000 in
theorem sg_MO_thrown {p : Program} {l : Launch} {e : Env} {R : Room} {s : State} {mi : MethodId} {args : Array Value} {below : List Frame} {meth : Method} {co : Code} {D : va_G} {cB cI cL : ClassId} {w0 : va_W} {kr nr : Nat} {post : Outcome → va_W → Prop} (C : zx_C p s mi args co b_MO_thrown 1 R_MO zB D zcl (zt cB cI cL) (va_A w0 s.heap.size)) {ma tp rp dp wp op bp lp ep kp tn rn : Nat} {fl dn wn ba on bb bc cw cx cf : Int32} (hr9 : meth.sig.returnType = some .int) (hlk9 : meth.locks = false) (r4 : post (.returned (some (.int fl))) [(ma, .inr (5, [.int fl, .ref tp, .int (nI tn), .ref rp, .int (nI rn), .ref dp, .int dn, .ref wp, .int wn, .int ba, .ref op, .int on, .ref bp, .ref lp, .ref ep, .int bb, .int bc, .int cw, .int cx, .int cf, .ref kp]))]) : zx_At p l e R s mi args below meth co (zx_Q below s D zcl w0 kr nr R post) D zcl (va_A w0 s.heap.size) 1 [(0, .ref ma)] [(ma, .inr (5, [.int fl, .ref tp, .int (nI tn), .ref rp, .int (nI rn), .ref dp, .int dn, .ref wp, .int wn, .int ba, .ref op, .int on, .ref bp, .ref lp, .ref ep, .int bb, .int bc, .int cw, .int cx, .int cf, .ref kp]))] 0 0 0 [] := by
  refine zx_aload_n (pc := 0) C d_MO_thrown_0 rfl 0 rfl ?_
  refine zx_get (pc := 1) (ci := 5) (Cn := R_MO) (T := T_MO) (N := 21) (v := .int fl) C zu_MO 0 rfl rfl 0 (by decide) zw_703 rfl rfl d_MO_thrown_1 ?_
  exact zx_iret (pc := 4) C hr9 hlk9 (Nat.zero_le _) (Nat.zero_le _) d_MO_thrown_4 (r4)

theorem k_MO_thrown (l : Launch) (D : va_G) (cB cI cL : ClassId) (R : Room) (ma tp rp dp wp op bp lp ep kp tn rn : Nat) (fl dn wn ba on bb bc cw cx cf : Int32) : zx_K l zB D zcl (zt cB cI cL) y_MO_thrown b_MO_thrown 1 (some .int) [] 0 0 R [.ref ma] [(ma, .inr (5, [.int fl, .ref tp, .int (nI tn), .ref rp, .int (nI rn), .ref dp, .int dn, .ref wp, .int wn, .int ba, .ref op, .int on, .ref bp, .ref lp, .ref ep, .int bb, .int bc, .int cw, .int cx, .int cf, .ref kp]))] (fun o w => o = .returned (some (.int fl)) ∧ w = [(ma, .inr (5, [.int fl, .ref tp, .int (nI tn), .ref rp, .int (nI rn), .ref dp, .int dn, .ref wp, .int wn, .int ba, .ref op, .int on, .ref bp, .ref lp, .ref ep, .int bb, .int bc, .int cw, .int cx, .int cf, .ref kp]))]) := by
  refine zx_K.mk (Nat.le_of_ble_eq_true rfl) (fun p e s mm below meth c9 C hr hlk ht hnm => ?_)
  exact sg_MO_thrown C hr hlk ⟨rfl, rfl⟩
set_option maxRecDepth 100000 in
set_option maxHeartbeats 4000000 in
theorem sg_MO_fail {p : Program} {l : Launch} {e : Env} {R : Room} {s : State} {mi : MethodId} {args : Array Value} {below : List Frame} {meth : Method} {co : Code} {D : va_G} {cB cI cL : ClassId} {w0 : va_W} {kr nr : Nat} {post : Outcome → va_W → Prop} (C : zx_C p s mi args co b_MO_fail 2 R_MO zB D zcl (zt cB cI cL) (va_A w0 s.heap.size)) {ma tp rp dp wp op bp lp ep kp tn rn : Nat} {fl dn wn ba on bb bc cw cx cf : Int32} {c9 : Int32} (hr9 : meth.sig.returnType = some .int) (hlk9 : meth.locks = false) (r6 : post (.returned (some (.int (0 : Int32)))) [(ma, .inr (5, [.int c9, .ref tp, .int (nI tn), .ref rp, .int (nI rn), .ref dp, .int dn, .ref wp, .int wn, .int ba, .ref op, .int on, .ref bp, .ref lp, .ref ep, .int bb, .int bc, .int cw, .int cx, .int cf, .ref kp]))]) : zx_At p l e R s mi args below meth co (zx_Q below s D zcl w0 kr nr R post) D zcl (va_A w0 s.heap.size) 2 [(0, .ref ma), (1, .int c9)] [(ma, .inr (5, [.int fl, .ref tp, .int (nI tn), .ref rp, .int (nI rn), .ref dp, .int dn, .ref wp, .int wn, .int ba, .ref op, .int on, .ref bp, .ref lp, .ref ep, .int bb, .int bc, .int cw, .int cx, .int cf, .ref kp]))] 0 0 0 [] := by
  refine zx_aload_n (pc := 0) C d_MO_fail_0 rfl 0 rfl ?_
  refine zx_iload_n (pc := 1) C d_MO_fail_1 rfl 1 rfl ?_
  refine zx_put (pc := 2) (ci := 5) (Cn := R_MO) (T := T_MO) (N := 21) (v := .int c9) (ty := .int) (ws' := [(ma, .inr (5, [.int c9, .ref tp, .int (nI tn), .ref rp, .int (nI rn), .ref dp, .int dn, .ref wp, .int wn, .int ba, .ref op, .int on, .ref bp, .ref lp, .ref ep, .int bb, .int bc, .int cw, .int cx, .int cf, .ref kp]))]) C zu_MO ty_MO tyk_MO nm_MO 0 rfl rfl 0 (by decide) zw_703 rfl rfl (by decide +kernel) rfl rfl (Nat.le_of_ble_eq_true rfl) rfl d_MO_fail_2 ?_
  refine zx_iconst (pc := 5) C d_MO_fail_5 (v := (0 : Int32)) (by decide) ?_
  exact zx_iret (pc := 6) C hr9 hlk9 (Nat.zero_le _) (Nat.zero_le _) d_MO_fail_6 (r6)

theorem k_MO_fail (l : Launch) (D : va_G) (cB cI cL : ClassId) (R : Room) (ma tp rp dp wp op bp lp ep kp tn rn : Nat) (fl dn wn ba on bb bc cw cx cf : Int32) (c8 : Int32) : zx_K l zB D zcl (zt cB cI cL) y_MO_fail b_MO_fail 2 (some .int) [] 0 0 R [.ref ma, .int c8] [(ma, .inr (5, [.int fl, .ref tp, .int (nI tn), .ref rp, .int (nI rn), .ref dp, .int dn, .ref wp, .int wn, .int ba, .ref op, .int on, .ref bp, .ref lp, .ref ep, .int bb, .int bc, .int cw, .int cx, .int cf, .ref kp]))] (fun o w => o = .returned (some (.int 0)) ∧ w = [(ma, .inr (5, [.int c8, .ref tp, .int (nI tn), .ref rp, .int (nI rn), .ref dp, .int dn, .ref wp, .int wn, .int ba, .ref op, .int on, .ref bp, .ref lp, .ref ep, .int bb, .int bc, .int cw, .int cx, .int cf, .ref kp]))]) := by
  refine zx_K.mk (Nat.le_of_ble_eq_true rfl) (fun p e s mm below meth c9 C hr hlk ht hnm => ?_)
  exact sg_MO_fail C hr hlk ⟨rfl, rfl⟩
set_option maxRecDepth 100000 in
set_option maxHeartbeats 4000000 in
theorem sg_MO_can {p : Program} {l : Launch} {e : Env} {s : State} {mi : MethodId} {args : Array Value} {below : List Frame} {meth : Method} {co : Code} {D : va_G} {cB cI cL : ClassId} {w0 : va_W} {kr nr : Nat} {post : Outcome → va_W → Prop} (C : zx_C p s mi args co b_MO_can 2 R_MO zB D zcl (zt cB cI cL) (va_A w0 s.heap.size)) {ma : Nat} {g9 : Int32} (hr9 : meth.sig.returnType = none) (hlk9 : meth.locks = false) (hl9 : l.stackTraces = false) (ht9 : co.exceptionTable.toList.map (fun h => (h.startPc, h.endPc, h.handlerPc, h.catchType)) = []) (r12 : (¬ g9 = 0) → post (.returned none) []) (t4 : (g9 = 0) → ∀ x9 : Nat, post (.threw x9) [(x9, .inr (7, []))]) : zx_At p l e (zr 8 1 6) s mi args below meth co (zx_Q below s D zcl w0 kr nr (zr 8 1 6) post) D zcl (va_A w0 s.heap.size) 2 [(0, .ref ma), (1, .int g9)] [] 0 0 0 [] := by
  refine zx_iload_n (pc := 0) C d_MO_can_0 rfl 1 rfl ?_
  refine zx_if_ne (pc := 1) C 12 d_MO_can_1 (by decide) (fun c1 => ?_) (fun c1 => ?_)
  · exact zx_vret (pc := 12) C hr9 hlk9 (Nat.zero_le _) (Nat.zero_le _) d_MO_can_12 (r12 c1)
  · exact zx_throw0 (pc := 4) (names := zex) (ci := 7) C hl9 (by decide +kernel) zex_fit zw_775 zw_13 zh_MO_46 rfl hlk9 (zx_noTab ht9 _) d_MO_can_4 d_MO_can_7 d_MO_can_8 d_MO_can_11 (Nat.le_of_ble_eq_true rfl) (Nat.le_of_ble_eq_true rfl) (Nat.le_of_ble_eq_true rfl) (Nat.le_of_ble_eq_true rfl) (t4 c1)

theorem k_MO_can (l : Launch) (D : va_G) (cB cI cL : ClassId) (hl : l.stackTraces = false) (ma : Nat) (g9 : Int32) : zx_K l zB D zcl (zt cB cI cL) y_MO_can b_MO_can 2 (none) [] 0 0 (zr 8 1 6) [.ref ma, .int g9] [] (fun o w => ((g9 = 0) ∧ ∃ x0 : Nat, o = .threw x0 ∧ w = [(x0, .inr (7, []))]) ∨ (¬ (g9 = 0) ∧ o = .returned none ∧ w = [])) := by
  refine zx_K.mk (Nat.le_of_ble_eq_true rfl) (fun p e s mm below meth c9 C hr hlk ht hnm => ?_)
  exact sg_MO_can C hr hlk hl ht (fun h => Or.inr ⟨h, rfl, rfl⟩) (fun h x0 => Or.inl ⟨h, x0, rfl, rfl⟩)
set_option maxRecDepth 100000 in
set_option maxHeartbeats 4000000 in
theorem sg_MO_end {p : Program} {l : Launch} {e : Env} {s : State} {mi : MethodId} {args : Array Value} {below : List Frame} {meth : Method} {co : Code} {D : va_G} {cB cI cL : ClassId} {w0 : va_W} {kr nr : Nat} {post : Outcome → va_W → Prop} (C : zx_C p s mi args co b_MO_end 2 R_MO zB D zcl (zt cB cI cL) (va_A w0 s.heap.size)) {ma tp rp dp wp op bp lp ep kp tn rn : Nat} {fl dn wn ba on bb bc cw cx cf : Int32} {i9 : Int32} (hr9 : meth.sig.returnType = some .int) (hlk9 : meth.locks = false) (r22 : (i9 < 0) → post (.returned (some (.int (0 : Int32)))) [(ma, .inr (5, [.int (1 : Int32), .ref tp, .int (nI tn), .ref rp, .int (nI rn), .ref dp, .int dn, .ref wp, .int wn, .int ba, .ref op, .int on, .ref bp, .ref lp, .ref ep, .int bb, .int bc, .int cw, .int cx, .int cf, .ref kp]))]) (r29 : (¬ i9 < 0) → (i9 ≤ (nI tn)) → post (.returned (some (.int i9))) [(ma, .inr (5, [.int (0 : Int32), .ref tp, .int i9, .ref rp, .int (nI rn), .ref dp, .int dn, .ref wp, .int wn, .int ba, .ref op, .int on, .ref bp, .ref lp, .ref ep, .int bb, .int bc, .int cw, .int cx, .int cf, .ref kp]))]) (r22_2 : (¬ i9 < 0) → (¬ i9 ≤ (nI tn)) → post (.returned (some (.int (0 : Int32)))) [(ma, .inr (5, [.int (1 : Int32), .ref tp, .int (nI tn), .ref rp, .int (nI rn), .ref dp, .int dn, .ref wp, .int wn, .int ba, .ref op, .int on, .ref bp, .ref lp, .ref ep, .int bb, .int bc, .int cw, .int cx, .int cf, .ref kp]))]) : zx_At p l e (zr 1 0 0) s mi args below meth co (zx_Q below s D zcl w0 kr nr (zr 1 0 0) post) D zcl (va_A w0 s.heap.size) 2 [(0, .ref ma), (1, .int i9)] [(ma, .inr (5, [.int fl, .ref tp, .int (nI tn), .ref rp, .int (nI rn), .ref dp, .int dn, .ref wp, .int wn, .int ba, .ref op, .int on, .ref bp, .ref lp, .ref ep, .int bb, .int bc, .int cw, .int cx, .int cf, .ref kp]))] 0 0 0 [] := by
  refine zx_aload_n (pc := 0) C d_MO_end_0 rfl 0 rfl ?_
  refine zx_iconst (pc := 1) C d_MO_end_1 (v := (0 : Int32)) (by decide) ?_
  refine zx_put (pc := 2) (ci := 5) (Cn := R_MO) (T := T_MO) (N := 21) (v := .int (0 : Int32)) (ty := .int) (ws' := [(ma, .inr (5, [.int (0 : Int32), .ref tp, .int (nI tn), .ref rp, .int (nI rn), .ref dp, .int dn, .ref wp, .int wn, .int ba, .ref op, .int on, .ref bp, .ref lp, .ref ep, .int bb, .int bc, .int cw, .int cx, .int cf, .ref kp]))]) C zu_MO ty_MO tyk_MO nm_MO 0 rfl rfl 0 (by decide) zw_703 rfl rfl (by decide +kernel) rfl rfl (Nat.le_of_ble_eq_true rfl) rfl d_MO_end_2 ?_
  refine zx_iload_n (pc := 5) C d_MO_end_5 rfl 1 rfl ?_
  refine zx_if_lt (pc := 6) C 17 d_MO_end_6 (by decide) (fun c6 => ?_) (fun c6 => ?_)
  · refine zx_aload_n (pc := 17) C d_MO_end_17 rfl 0 rfl ?_
    refine zx_iconst (pc := 18) C d_MO_end_18 (v := (1 : Int32)) (by decide) ?_
    refine zx_callV (pc := 19) (ix := 109) (As := [.int (1 : Int32)]) (b := ma) (q0 := 0) (wr := []) (st := []) C (zx_cw.of (C.w zw_780)) (by decide +kernel) ⟨by decide +kernel, by decide +kernel⟩ zw_779 zs_MO_fail zw_777 rfl rfl rfl rfl rfl (k_MO_fail l D cB cI cL (zr 0 0 0) ma tp rp dp wp op bp lp ep kp tn rn (0 : Int32) dn wn ba on bb bc cw cx cf (1 : Int32)) rfl [0] [] rfl rfl (by decide) (by decide) (by decide) (Nat.le_of_ble_eq_true rfl) (Nat.le_of_ble_eq_true rfl) (Nat.le_of_ble_eq_true rfl) (Nat.le_of_ble_eq_true rfl) d_MO_end_19 (fun o w1 hp => ?_)
    obtain ⟨rfl, rfl⟩ := hp
    refine zx_ri (k2 := 0) (n2 := 0) rfl rfl ?_
    refine zx_ws (ws' := [(ma, .inr (5, [.int (1 : Int32), .ref tp, .int (nI tn), .ref rp, .int (nI rn), .ref dp, .int dn, .ref wp, .int wn, .int ba, .ref op, .int on, .ref bp, .ref lp, .ref ep, .int bb, .int bc, .int cw, .int cx, .int cf, .ref kp]))]) [0] (by decide) rfl ?_
    exact zx_iret (pc := 22) C hr9 hlk9 (Nat.zero_le _) (Nat.zero_le _) d_MO_end_22 (r22 c6)
  · refine zx_iload_n (pc := 9) C d_MO_end_9 rfl 1 rfl ?_
    refine zx_aload_n (pc := 10) C d_MO_end_10 rfl 0 rfl ?_
    refine zx_get (pc := 11) (ci := 5) (Cn := R_MO) (T := T_MO) (N := 21) (v := .int (nI tn)) C zu_MO 0 rfl rfl 2 (by decide) zw_705 rfl rfl d_MO_end_11 ?_
    refine zx_icmp_le (pc := 14) C 23 d_MO_end_14 (by decide) (fun c14 => ?_) (fun c14 => ?_)
    · refine zx_aload_n (pc := 23) C d_MO_end_23 rfl 0 rfl ?_
      refine zx_iload_n (pc := 24) C d_MO_end_24 rfl 1 rfl ?_
      refine zx_put (pc := 25) (ci := 5) (Cn := R_MO) (T := T_MO) (N := 21) (v := .int i9) (ty := .int) (ws' := [(ma, .inr (5, [.int (0 : Int32), .ref tp, .int i9, .ref rp, .int (nI rn), .ref dp, .int dn, .ref wp, .int wn, .int ba, .ref op, .int on, .ref bp, .ref lp, .ref ep, .int bb, .int bc, .int cw, .int cx, .int cf, .ref kp]))]) C zu_MO ty_MO tyk_MO nm_MO 0 rfl rfl 2 (by decide) zw_705 rfl rfl (by decide +kernel) rfl rfl (Nat.le_of_ble_eq_true rfl) rfl d_MO_end_25 ?_
      refine zx_iload_n (pc := 28) C d_MO_end_28 rfl 1 rfl ?_
      exact zx_iret (pc := 29) C hr9 hlk9 (Nat.zero_le _) (Nat.zero_le _) d_MO_end_29 (r29 c6 c14)
    · refine zx_aload_n (pc := 17) C d_MO_end_17 rfl 0 rfl ?_
      refine zx_iconst (pc := 18) C d_MO_end_18 (v := (1 : Int32)) (by decide) ?_
      refine zx_callV (pc := 19) (ix := 109) (As := [.int (1 : Int32)]) (b := ma) (q0 := 0) (wr := []) (st := []) C (zx_cw.of (C.w zw_780)) (by decide +kernel) ⟨by decide +kernel, by decide +kernel⟩ zw_779 zs_MO_fail zw_777 rfl rfl rfl rfl rfl (k_MO_fail l D cB cI cL (zr 0 0 0) ma tp rp dp wp op bp lp ep kp tn rn (0 : Int32) dn wn ba on bb bc cw cx cf (1 : Int32)) rfl [0] [] rfl rfl (by decide) (by decide) (by decide) (Nat.le_of_ble_eq_true rfl) (Nat.le_of_ble_eq_true rfl) (Nat.le_of_ble_eq_true rfl) (Nat.le_of_ble_eq_true rfl) d_MO_end_19 (fun o w1 hp => ?_)
      obtain ⟨rfl, rfl⟩ := hp
      refine zx_ri (k2 := 0) (n2 := 0) rfl rfl ?_
      refine zx_ws (ws' := [(ma, .inr (5, [.int (1 : Int32), .ref tp, .int (nI tn), .ref rp, .int (nI rn), .ref dp, .int dn, .ref wp, .int wn, .int ba, .ref op, .int on, .ref bp, .ref lp, .ref ep, .int bb, .int bc, .int cw, .int cx, .int cf, .ref kp]))]) [0] (by decide) rfl ?_
      exact zx_iret (pc := 22) C hr9 hlk9 (Nat.zero_le _) (Nat.zero_le _) d_MO_end_22 (r22_2 c6 c14)

theorem k_MO_end (l : Launch) (D : va_G) (cB cI cL : ClassId) (ma tp rp dp wp op bp lp ep kp tn rn : Nat) (fl dn wn ba on bb bc cw cx cf : Int32) (i9 : Int32) : zx_K l zB D zcl (zt cB cI cL) y_MO_end b_MO_end 2 (some .int) [] 0 0 (zr 1 0 0) [.ref ma, .int i9] [(ma, .inr (5, [.int fl, .ref tp, .int (nI tn), .ref rp, .int (nI rn), .ref dp, .int dn, .ref wp, .int wn, .int ba, .ref op, .int on, .ref bp, .ref lp, .ref ep, .int bb, .int bc, .int cw, .int cx, .int cf, .ref kp]))] (fun o w => ((i9 < 0 ∨ nI tn < i9) ∧ o = .returned (some (.int 0)) ∧ w = [(ma, .inr (5, [.int 1, .ref tp, .int (nI tn), .ref rp, .int (nI rn), .ref dp, .int dn, .ref wp, .int wn, .int ba, .ref op, .int on, .ref bp, .ref lp, .ref ep, .int bb, .int bc, .int cw, .int cx, .int cf, .ref kp]))]) ∨ (¬ (i9 < 0 ∨ nI tn < i9) ∧ o = .returned (some (.int i9)) ∧ w = [(ma, .inr (5, [.int 0, .ref tp, .int i9, .ref rp, .int (nI rn), .ref dp, .int dn, .ref wp, .int wn, .int ba, .ref op, .int on, .ref bp, .ref lp, .ref ep, .int bb, .int bc, .int cw, .int cx, .int cf, .ref kp]))])) := by
  refine zx_K.mk (Nat.le_of_ble_eq_true rfl) (fun p e s mm below meth c9 C hr hlk ht hnm => ?_)
  refine sg_MO_end C hr hlk (fun h => Or.inl ⟨Or.inl h, rfl, rfl⟩) (fun h1 h2 => Or.inr ⟨?_, rfl, rfl⟩) (fun h1 h2 => Or.inl ⟨Or.inr (zi_nle.mp h2), rfl, rfl⟩)
  intro h
  rcases h with h | h
  · exact h1 h
  · exact zi_nle.mpr h h2
set_option maxRecDepth 100000 in
set_option maxHeartbeats 4000000 in
theorem sg_MO_count {p : Program} {l : Launch} {e : Env} {s : State} {mi : MethodId} {args : Array Value} {below : List Frame} {meth : Method} {co : Code} {D : va_G} {cB cI cL : ClassId} {w0 : va_W} {kr nr : Nat} {post : Outcome → va_W → Prop} (C : zx_C p s mi args co b_MO_count 2 R_MO zB D zcl (zt cB cI cL) (va_A w0 s.heap.size)) {ma tp rp dp wp op bp lp ep kp tn rn : Nat} {fl dn wn ba on bb bc cw cx cf : Int32} {i9 : Int32} (hr9 : meth.sig.returnType = some .int) (hlk9 : meth.locks = false) (r37 : (i9 < 0) → post (.returned (some (.int (0 : Int32)))) [(ma, .inr (5, [.int (1 : Int32), .ref tp, .int (nI tn), .ref rp, .int (nI rn), .ref dp, .int dn, .ref wp, .int wn, .int ba, .ref op, .int on, .ref bp, .ref lp, .ref ep, .int bb, .int bc, .int cw, .int cx, .int cf, .ref kp]))]) (r37_2 : (¬ i9 < 0) → (i9 ≤ (1 : Int32)) → (¬ i9 = 0) → post (.returned (some (.int (nI rn)))) [(ma, .inr (5, [.int (0 : Int32), .ref tp, .int (nI tn), .ref rp, .int (nI rn), .ref dp, .int dn, .ref wp, .int wn, .int ba, .ref op, .int on, .ref bp, .ref lp, .ref ep, .int bb, .int bc, .int cw, .int cx, .int cf, .ref kp]))]) (r37_3 : (¬ i9 < 0) → (i9 ≤ (1 : Int32)) → (i9 = 0) → post (.returned (some (.int (nI tn)))) [(ma, .inr (5, [.int (0 : Int32), .ref tp, .int (nI tn), .ref rp, .int (nI rn), .ref dp, .int dn, .ref wp, .int wn, .int ba, .ref op, .int on, .ref bp, .ref lp, .ref ep, .int bb, .int bc, .int cw, .int cx, .int cf, .ref kp]))]) (r37_4 : (¬ i9 < 0) → (¬ i9 ≤ (1 : Int32)) → post (.returned (some (.int (0 : Int32)))) [(ma, .inr (5, [.int (1 : Int32), .ref tp, .int (nI tn), .ref rp, .int (nI rn), .ref dp, .int dn, .ref wp, .int wn, .int ba, .ref op, .int on, .ref bp, .ref lp, .ref ep, .int bb, .int bc, .int cw, .int cx, .int cf, .ref kp]))]) : zx_At p l e (zr 1 0 0) s mi args below meth co (zx_Q below s D zcl w0 kr nr (zr 1 0 0) post) D zcl (va_A w0 s.heap.size) 2 [(0, .ref ma), (1, .int i9)] [(ma, .inr (5, [.int fl, .ref tp, .int (nI tn), .ref rp, .int (nI rn), .ref dp, .int dn, .ref wp, .int wn, .int ba, .ref op, .int on, .ref bp, .ref lp, .ref ep, .int bb, .int bc, .int cw, .int cx, .int cf, .ref kp]))] 0 0 0 [] := by
  refine zx_aload_n (pc := 0) C d_MO_count_0 rfl 0 rfl ?_
  refine zx_iconst (pc := 1) C d_MO_count_1 (v := (0 : Int32)) (by decide) ?_
  refine zx_put (pc := 2) (ci := 5) (Cn := R_MO) (T := T_MO) (N := 21) (v := .int (0 : Int32)) (ty := .int) (ws' := [(ma, .inr (5, [.int (0 : Int32), .ref tp, .int (nI tn), .ref rp, .int (nI rn), .ref dp, .int dn, .ref wp, .int wn, .int ba, .ref op, .int on, .ref bp, .ref lp, .ref ep, .int bb, .int bc, .int cw, .int cx, .int cf, .ref kp]))]) C zu_MO ty_MO tyk_MO nm_MO 0 rfl rfl 0 (by decide) zw_703 rfl rfl (by decide +kernel) rfl rfl (Nat.le_of_ble_eq_true rfl) rfl d_MO_count_2 ?_
  refine zx_iload_n (pc := 5) C d_MO_count_5 rfl 1 rfl ?_
  refine zx_if_lt (pc := 6) C 14 d_MO_count_6 (by decide) (fun c6 => ?_) (fun c6 => ?_)
  · refine zx_aload_n (pc := 14) C d_MO_count_14 rfl 0 rfl ?_
    refine zx_iconst (pc := 15) C d_MO_count_15 (v := (1 : Int32)) (by decide) ?_
    refine zx_callV (pc := 16) (ix := 109) (As := [.int (1 : Int32)]) (b := ma) (q0 := 0) (wr := []) (st := []) C (zx_cw.of (C.w zw_780)) (by decide +kernel) ⟨by decide +kernel, by decide +kernel⟩ zw_779 zs_MO_fail zw_777 rfl rfl rfl rfl rfl (k_MO_fail l D cB cI cL (zr 0 0 0) ma tp rp dp wp op bp lp ep kp tn rn (0 : Int32) dn wn ba on bb bc cw cx cf (1 : Int32)) rfl [0] [] rfl rfl (by decide) (by decide) (by decide) (Nat.le_of_ble_eq_true rfl) (Nat.le_of_ble_eq_true rfl) (Nat.le_of_ble_eq_true rfl) (Nat.le_of_ble_eq_true rfl) d_MO_count_16 (fun o w1 hp => ?_)
    obtain ⟨rfl, rfl⟩ := hp
    refine zx_ri (k2 := 0) (n2 := 0) rfl rfl ?_
    refine zx_ws (ws' := [(ma, .inr (5, [.int (1 : Int32), .ref tp, .int (nI tn), .ref rp, .int (nI rn), .ref dp, .int dn, .ref wp, .int wn, .int ba, .ref op, .int on, .ref bp, .ref lp, .ref ep, .int bb, .int bc, .int cw, .int cx, .int cf, .ref kp]))]) [0] (by decide) rfl ?_
    refine zx_goto (pc := 19) C 37 d_MO_count_19 (by decide) ?_
    exact zx_iret (pc := 37) C hr9 hlk9 (Nat.zero_le _) (Nat.zero_le _) d_MO_count_37 (r37 c6)
  · refine zx_iload_n (pc := 9) C d_MO_count_9 rfl 1 rfl ?_
    refine zx_iconst (pc := 10) C d_MO_count_10 (v := (1 : Int32)) (by decide) ?_
    refine zx_icmp_le (pc := 11) C 22 d_MO_count_11 (by decide) (fun c11 => ?_) (fun c11 => ?_)
    · refine zx_iload_n (pc := 22) C d_MO_count_22 rfl 1 rfl ?_
      refine zx_if_ne (pc := 23) C 33 d_MO_count_23 (by decide) (fun c23 => ?_) (fun c23 => ?_)
      · refine zx_aload_n (pc := 33) C d_MO_count_33 rfl 0 rfl ?_
        refine zx_get (pc := 34) (ci := 5) (Cn := R_MO) (T := T_MO) (N := 21) (v := .int (nI rn)) C zu_MO 0 rfl rfl 4 (by decide) zw_707 rfl rfl d_MO_count_34 ?_
        exact zx_iret (pc := 37) C hr9 hlk9 (Nat.zero_le _) (Nat.zero_le _) d_MO_count_37 (r37_2 c6 c11 c23)
      · refine zx_aload_n (pc := 26) C d_MO_count_26 rfl 0 rfl ?_
        refine zx_get (pc := 27) (ci := 5) (Cn := R_MO) (T := T_MO) (N := 21) (v := .int (nI tn)) C zu_MO 0 rfl rfl 2 (by decide) zw_705 rfl rfl d_MO_count_27 ?_
        refine zx_goto (pc := 30) C 37 d_MO_count_30 (by decide) ?_
        exact zx_iret (pc := 37) C hr9 hlk9 (Nat.zero_le _) (Nat.zero_le _) d_MO_count_37 (r37_3 c6 c11 c23)
    · refine zx_aload_n (pc := 14) C d_MO_count_14 rfl 0 rfl ?_
      refine zx_iconst (pc := 15) C d_MO_count_15 (v := (1 : Int32)) (by decide) ?_
      refine zx_callV (pc := 16) (ix := 109) (As := [.int (1 : Int32)]) (b := ma) (q0 := 0) (wr := []) (st := []) C (zx_cw.of (C.w zw_780)) (by decide +kernel) ⟨by decide +kernel, by decide +kernel⟩ zw_779 zs_MO_fail zw_777 rfl rfl rfl rfl rfl (k_MO_fail l D cB cI cL (zr 0 0 0) ma tp rp dp wp op bp lp ep kp tn rn (0 : Int32) dn wn ba on bb bc cw cx cf (1 : Int32)) rfl [0] [] rfl rfl (by decide) (by decide) (by decide) (Nat.le_of_ble_eq_true rfl) (Nat.le_of_ble_eq_true rfl) (Nat.le_of_ble_eq_true rfl) (Nat.le_of_ble_eq_true rfl) d_MO_count_16 (fun o w1 hp => ?_)
      obtain ⟨rfl, rfl⟩ := hp
      refine zx_ri (k2 := 0) (n2 := 0) rfl rfl ?_
      refine zx_ws (ws' := [(ma, .inr (5, [.int (1 : Int32), .ref tp, .int (nI tn), .ref rp, .int (nI rn), .ref dp, .int dn, .ref wp, .int wn, .int ba, .ref op, .int on, .ref bp, .ref lp, .ref ep, .int bb, .int bc, .int cw, .int cx, .int cf, .ref kp]))]) [0] (by decide) rfl ?_
      refine zx_goto (pc := 19) C 37 d_MO_count_19 (by decide) ?_
      exact zx_iret (pc := 37) C hr9 hlk9 (Nat.zero_le _) (Nat.zero_le _) d_MO_count_37 (r37_4 c6 c11)

theorem k_MO_count (l : Launch) (D : va_G) (cB cI cL : ClassId) (ma tp rp dp wp op bp lp ep kp tn rn : Nat) (fl dn wn ba on bb bc cw cx cf : Int32) (i9 : Int32) : zx_K l zB D zcl (zt cB cI cL) y_MO_count b_MO_count 2 (some .int) [] 0 0 (zr 1 0 0) [.ref ma, .int i9] [(ma, .inr (5, [.int fl, .ref tp, .int (nI tn), .ref rp, .int (nI rn), .ref dp, .int dn, .ref wp, .int wn, .int ba, .ref op, .int on, .ref bp, .ref lp, .ref ep, .int bb, .int bc, .int cw, .int cx, .int cf, .ref kp]))] (fun o w => ((i9 < 0 ∨ 1 < i9) ∧ o = .returned (some (.int 0)) ∧ w = [(ma, .inr (5, [.int 1, .ref tp, .int (nI tn), .ref rp, .int (nI rn), .ref dp, .int dn, .ref wp, .int wn, .int ba, .ref op, .int on, .ref bp, .ref lp, .ref ep, .int bb, .int bc, .int cw, .int cx, .int cf, .ref kp]))]) ∨ (¬ (i9 < 0 ∨ 1 < i9) ∧ o = .returned (some (.int (if i9 = 0 then nI tn else nI rn))) ∧ w = [(ma, .inr (5, [.int 0, .ref tp, .int (nI tn), .ref rp, .int (nI rn), .ref dp, .int dn, .ref wp, .int wn, .int ba, .ref op, .int on, .ref bp, .ref lp, .ref ep, .int bb, .int bc, .int cw, .int cx, .int cf, .ref kp]))])) := by
  refine zx_K.mk (Nat.le_of_ble_eq_true rfl) (fun p e s mm below meth c9 C hr hlk ht hnm => ?_)
  refine sg_MO_count C hr hlk (fun h => Or.inl ⟨Or.inl h, rfl, rfl⟩) (fun h1 h2 h3 => Or.inr ⟨?_, by rw [if_neg h3], rfl⟩) (fun h1 h2 h3 => Or.inr ⟨?_, by rw [if_pos h3], rfl⟩) (fun h1 h2 => Or.inl ⟨Or.inr (zi_nle.mp h2), rfl, rfl⟩)
  · intro h
    rcases h with h | h
    · exact h1 h
    · exact zi_nle.mpr h h2
  · intro h
    rcases h with h | h
    · exact h1 h
    · exact zi_nle.mpr h h2
set_option maxRecDepth 100000 in
set_option maxHeartbeats 4000000 in
theorem sg_MO_mask0 {p : Program} {l : Launch} {e : Env} {R : Room} {s : State} {mi : MethodId} {args : Array Value} {below : List Frame} {meth : Method} {co : Code} {D : va_G} {cB cI cL : ClassId} {w0 : va_W} {kr nr : Nat} {post : Outcome → va_W → Prop} (C : zx_C p s mi args co b_MO_mask 3 R_MO zB D zcl (zt cB cI cL) (va_A w0 s.heap.size)) {ma tp rp dp wp op bp lp ep kp tn rn : Nat} {fl dn wn ba on bb bc cw cx cf : Int32} {m9 : Int32} {f : Nat → Int32} (hr9 : meth.sig.returnType = none) (hlk9 : meth.locks = false) (r59 : (m9 < (2 : Int32)) → post (.returned none) [(ma, .inr (5, [.int (1 : Int32), .ref tp, .int (nI tn), .ref rp, .int (nI rn), .ref dp, .int dn, .ref wp, .int wn, .int ba, .ref op, .int on, .ref bp, .ref lp, .ref ep, .int bb, .int bc, .int cw, .int cx, .int cf, .ref kp])), (tp, .inl (cB, 16384, .inl f))]) (k26 : (¬ m9 < (2 : Int32)) → (m9 ≤ (8 : Int32)) → zx_At p l e R s mi args below meth co (zx_Q below s D zcl w0 kr nr R post) D zcl (va_A w0 s.heap.size) 3 [(0, .ref ma), (1, .int m9), (2, .int (0 : Int32))] [(ma, .inr (5, [.int (0 : Int32), .ref tp, .int (nI tn), .ref rp, .int (nI rn), .ref dp, .int dn, .ref wp, .int wn, .int ba, .ref op, .int on, .ref bp, .ref lp, .ref ep, .int bb, .int bc, .int cw, .int cx, .int cf, .ref kp])), (tp, .inl (cB, 16384, .inl f))] 0 0 26 []) (r59_2 : (¬ m9 < (2 : Int32)) → (¬ m9 ≤ (8 : Int32)) → post (.returned none) [(ma, .inr (5, [.int (1 : Int32), .ref tp, .int (nI tn), .ref rp, .int (nI rn), .ref dp, .int dn, .ref wp, .int wn, .int ba, .ref op, .int on, .ref bp, .ref lp, .ref ep, .int bb, .int bc, .int cw, .int cx, .int cf, .ref kp])), (tp, .inl (cB, 16384, .inl f))]) : zx_At p l e R s mi args below meth co (zx_Q below s D zcl w0 kr nr R post) D zcl (va_A w0 s.heap.size) 3 [(0, .ref ma), (1, .int m9)] [(ma, .inr (5, [.int fl, .ref tp, .int (nI tn), .ref rp, .int (nI rn), .ref dp, .int dn, .ref wp, .int wn, .int ba, .ref op, .int on, .ref bp, .ref lp, .ref ep, .int bb, .int bc, .int cw, .int cx, .int cf, .ref kp])), (tp, .inl (cB, 16384, .inl f))] 0 0 0 [] := by
  refine zx_aload_n (pc := 0) C d_MO_mask_0 rfl 0 rfl ?_
  refine zx_iconst (pc := 1) C d_MO_mask_1 (v := (0 : Int32)) (by decide) ?_
  refine zx_put (pc := 2) (ci := 5) (Cn := R_MO) (T := T_MO) (N := 21) (v := .int (0 : Int32)) (ty := .int) (ws' := [(ma, .inr (5, [.int (0 : Int32), .ref tp, .int (nI tn), .ref rp, .int (nI rn), .ref dp, .int dn, .ref wp, .int wn, .int ba, .ref op, .int on, .ref bp, .ref lp, .ref ep, .int bb, .int bc, .int cw, .int cx, .int cf, .ref kp])), (tp, .inl (cB, 16384, .inl f))]) C zu_MO ty_MO tyk_MO nm_MO 0 rfl rfl 0 (by decide) zw_703 rfl rfl (by decide +kernel) rfl rfl (Nat.le_of_ble_eq_true rfl) rfl d_MO_mask_2 ?_
  refine zx_iload_n (pc := 5) C d_MO_mask_5 rfl 1 rfl ?_
  refine zx_iconst (pc := 6) C d_MO_mask_6 (v := (2 : Int32)) (by decide) ?_
  refine zx_icmp_lt (pc := 7) C 16 d_MO_mask_7 (by decide) (fun c7 => ?_) (fun c7 => ?_)
  · refine zx_aload_n (pc := 16) C d_MO_mask_16 rfl 0 rfl ?_
    refine zx_iconst (pc := 17) C d_MO_mask_17 (v := (1 : Int32)) (by decide) ?_
    refine zx_put (pc := 18) (ci := 5) (Cn := R_MO) (T := T_MO) (N := 21) (v := .int (1 : Int32)) (ty := .int) (ws' := [(ma, .inr (5, [.int (1 : Int32), .ref tp, .int (nI tn), .ref rp, .int (nI rn), .ref dp, .int dn, .ref wp, .int wn, .int ba, .ref op, .int on, .ref bp, .ref lp, .ref ep, .int bb, .int bc, .int cw, .int cx, .int cf, .ref kp])), (tp, .inl (cB, 16384, .inl f))]) C zu_MO ty_MO tyk_MO nm_MO 0 rfl rfl 0 (by decide) zw_703 rfl rfl (by decide +kernel) rfl rfl (Nat.le_of_ble_eq_true rfl) rfl d_MO_mask_18 ?_
    refine zx_goto (pc := 21) C 59 d_MO_mask_21 (by decide) ?_
    exact zx_vret (pc := 59) C hr9 hlk9 (Nat.zero_le _) (Nat.zero_le _) d_MO_mask_59 (r59 c7)
  · refine zx_iload_n (pc := 10) C d_MO_mask_10 rfl 1 rfl ?_
    refine zx_bipush (pc := 11) C d_MO_mask_11 (v := (8 : Int32)) (by decide) ?_
    refine zx_icmp_le (pc := 13) C 24 d_MO_mask_13 (by decide) (fun c13 => ?_) (fun c13 => ?_)
    · refine zx_iconst (pc := 24) C d_MO_mask_24 (v := (0 : Int32)) (by decide) ?_
      refine zx_istore_n (pc := 25) C d_MO_mask_25 rfl (by decide) (lv' := [(2, .int (0 : Int32)), (0, .ref ma), (1, .int m9)]) rfl ?_
      refine zx_lv (lv' := [(0, .ref ma), (1, .int m9), (2, .int (0 : Int32))]) [1, 2, 0] rfl ?_
      exact k26 c7 c13
    · refine zx_aload_n (pc := 16) C d_MO_mask_16 rfl 0 rfl ?_
      refine zx_iconst (pc := 17) C d_MO_mask_17 (v := (1 : Int32)) (by decide) ?_
      refine zx_put (pc := 18) (ci := 5) (Cn := R_MO) (T := T_MO) (N := 21) (v := .int (1 : Int32)) (ty := .int) (ws' := [(ma, .inr (5, [.int (1 : Int32), .ref tp, .int (nI tn), .ref rp, .int (nI rn), .ref dp, .int dn, .ref wp, .int wn, .int ba, .ref op, .int on, .ref bp, .ref lp, .ref ep, .int bb, .int bc, .int cw, .int cx, .int cf, .ref kp])), (tp, .inl (cB, 16384, .inl f))]) C zu_MO ty_MO tyk_MO nm_MO 0 rfl rfl 0 (by decide) zw_703 rfl rfl (by decide +kernel) rfl rfl (Nat.le_of_ble_eq_true rfl) rfl d_MO_mask_18 ?_
      refine zx_goto (pc := 21) C 59 d_MO_mask_21 (by decide) ?_
      exact zx_vret (pc := 59) C hr9 hlk9 (Nat.zero_le _) (Nat.zero_le _) d_MO_mask_59 (r59_2 c7 c13)

set_option maxRecDepth 100000 in
set_option maxHeartbeats 4000000 in
theorem sg_MO_mask26 {p : Program} {l : Launch} {e : Env} {R : Room} {s : State} {mi : MethodId} {args : Array Value} {below : List Frame} {meth : Method} {co : Code} {D : va_G} {cB cI cL : ClassId} {w0 : va_W} {kr nr : Nat} {post : Outcome → va_W → Prop} (C : zx_C p s mi args co b_MO_mask 3 R_MO zB D zcl (zt cB cI cL) (va_A w0 s.heap.size)) {ma tp rp dp wp op bp lp ep kp tn rn  : Nat} {dn wn ba on bb bc cw cx cf : Int32} {m i : Nat} {f : Nat → Int32} (hr9 : meth.sig.returnType = none) (hlk9 : meth.locks = false) (r59 : ((nI tn) ≤ (nI i)) → post (.returned none) [(ma, .inr (5, [.int (0 : Int32), .ref tp, .int (nI tn), .ref rp, .int (nI rn), .ref dp, .int dn, .ref wp, .int wn, .int ba, .ref op, .int on, .ref bp, .ref lp, .ref ep, .int bb, .int bc, .int cw, .int cx, .int cf, .ref kp])), (tp, .inl (cB, 16384, .inl f))]) (b44 : (¬ (nI tn) ≤ (nI i)) → (nI i) = nI i ∧ i < 16384) (e47 : (¬ (nI tn) ≤ (nI i)) → ((1 : Int32) <<< ((nI m) &&& 31)) = (nI (2 ^ m))) (e49 : (¬ (nI tn) ≤ (nI i)) → ((nI (2 ^ m)) - (1 : Int32)) = (nI (2 ^ m - 1))) (b52 : (¬ (nI tn) ≤ (nI i)) → (nI i) = nI i ∧ i < 16384) (e53 : (¬ (nI tn) ≤ (nI i)) → (nI i) + (1 : Int32) = (nI (i + 1))) (k26 : (¬ (nI tn) ≤ (nI i)) → zx_At p l e R s mi args below meth co (zx_Q below s D zcl w0 kr nr R post) D zcl (va_A w0 s.heap.size) 3 [(0, .ref ma), (1, .int (nI m)), (2, .int (nI (i + 1)))] [(ma, .inr (5, [.int (0 : Int32), .ref tp, .int (nI tn), .ref rp, .int (nI rn), .ref dp, .int dn, .ref wp, .int wn, .int ba, .ref op, .int on, .ref bp, .ref lp, .ref ep, .int bb, .int bc, .int cw, .int cx, .int cf, .ref kp])), (tp, .inl (cB, 16384, .inl (upd f i (vp_nar .byte (((f i) &&& (nI (2 ^ m - 1))).toInt8.toInt32)))))] 0 0 26 []) : zx_At p l e R s mi args below meth co (zx_Q below s D zcl w0 kr nr R post) D zcl (va_A w0 s.heap.size) 3 [(0, .ref ma), (1, .int (nI m)), (2, .int (nI i))] [(ma, .inr (5, [.int (0 : Int32), .ref tp, .int (nI tn), .ref rp, .int (nI rn), .ref dp, .int dn, .ref wp, .int wn, .int ba, .ref op, .int on, .ref bp, .ref lp, .ref ep, .int bb, .int bc, .int cw, .int cx, .int cf, .ref kp])), (tp, .inl (cB, 16384, .inl f))] 0 0 26 [] := by
  refine zx_iload_n (pc := 26) C d_MO_mask_26 rfl 2 rfl ?_
  refine zx_aload_n (pc := 27) C d_MO_mask_27 rfl 0 rfl ?_
  refine zx_get (pc := 28) (ci := 5) (Cn := R_MO) (T := T_MO) (N := 21) (v := .int (nI tn)) C zu_MO 0 rfl rfl 2 (by decide) zw_705 rfl rfl d_MO_mask_28 ?_
  refine zx_icmp_ge (pc := 31) C 59 d_MO_mask_31 (by decide) (fun c31 => ?_) (fun c31 => ?_)
  · exact zx_vret (pc := 59) C hr9 hlk9 (Nat.zero_le _) (Nat.zero_le _) d_MO_mask_59 (r59 c31)
  · refine zx_aload_n (pc := 34) C d_MO_mask_34 rfl 0 rfl ?_
    refine zx_get (pc := 35) (ci := 5) (Cn := R_MO) (T := T_MO) (N := 21) (v := .ref tp) C zu_MO 0 rfl rfl 1 (by decide) zw_704 rfl rfl d_MO_mask_35 ?_
    refine zx_iload_n (pc := 38) C d_MO_mask_38 rfl 2 rfl ?_
    refine zx_aload_n (pc := 39) C d_MO_mask_39 rfl 0 rfl ?_
    refine zx_get (pc := 40) (ci := 5) (Cn := R_MO) (T := T_MO) (N := 21) (v := .ref tp) C zu_MO 0 rfl rfl 1 (by decide) zw_704 rfl rfl d_MO_mask_40 ?_
    refine zx_iload_n (pc := 43) C d_MO_mask_43 rfl 2 rfl ?_
    refine zx_bald (pc := 44) C 1 0 rfl rfl i (b44 c31).1 (b44 c31).2 (by decide) d_MO_mask_44 ?_
    refine zx_iconst (pc := 45) C d_MO_mask_45 (v := (1 : Int32)) (by decide) ?_
    refine zx_iload_n (pc := 46) C d_MO_mask_46 rfl 1 rfl ?_
    refine zx_ishl (pc := 47) C d_MO_mask_47 ?_
    refine zx_seti (nI (2 ^ m)) (e47 c31) ?_
    refine zx_iconst (pc := 48) C d_MO_mask_48 (v := (1 : Int32)) (by decide) ?_
    refine zx_isub (pc := 49) C d_MO_mask_49 ?_
    refine zx_seti (nI (2 ^ m - 1)) (e49 c31) ?_
    refine zx_iand (pc := 50) C d_MO_mask_50 ?_
    refine zx_i2b (pc := 51) C d_MO_mask_51 rfl ?_
    refine zx_bast (pc := 52) (ws' := [(ma, .inr (5, [.int (0 : Int32), .ref tp, .int (nI tn), .ref rp, .int (nI rn), .ref dp, .int dn, .ref wp, .int wn, .int ba, .ref op, .int on, .ref bp, .ref lp, .ref ep, .int bb, .int bc, .int cw, .int cx, .int cf, .ref kp])), (tp, .inl (cB, 16384, .inl (upd f i (vp_nar .byte (((f i) &&& (nI (2 ^ m - 1))).toInt8.toInt32)))))]) C 1 0 rfl rfl i (b52 c31).1 (b52 c31).2 (by decide) rfl d_MO_mask_52 ?_
    refine zx_iinc (pc := 53) C d_MO_mask_53 2 rfl (v := (nI (i + 1))) (e53 c31) (by decide) (lv' := [(2, .int (nI (i + 1))), (0, .ref ma), (1, .int (nI m))]) rfl ?_
    refine zx_goto (pc := 56) C 26 d_MO_mask_56 (by decide) ?_
    refine zx_lv (lv' := [(0, .ref ma), (1, .int (nI m)), (2, .int (nI (i + 1)))]) [1, 2, 0] rfl ?_
    exact k26 c31

theorem k_MO_mask (l : Launch) (D : va_G) (cB cI cL : ClassId) (R : Room) (ma tp rp dp wp op bp lp ep kp tn rn : Nat) (fl dn wn ba on bb bc cw cx cf : Int32) (m9 : Int32) (f : Nat → Int32) (hn : tn ≤ 16384) : zx_K l zB D zcl (zt cB cI cL) y_MO_mask b_MO_mask 3 (none) [] 0 0 R [.ref ma, .int m9] [(ma, .inr (5, [.int fl, .ref tp, .int (nI tn), .ref rp, .int (nI rn), .ref dp, .int dn, .ref wp, .int wn, .int ba, .ref op, .int on, .ref bp, .ref lp, .ref ep, .int bb, .int bc, .int cw, .int cx, .int cf, .ref kp])), (tp, .inl (cB, 16384, .inl f))] (fun o w => ((m9 < 2 ∨ 8 < m9) ∧ o = .returned none ∧ w = [(ma, .inr (5, [.int 1, .ref tp, .int (nI tn), .ref rp, .int (nI rn), .ref dp, .int dn, .ref wp, .int wn, .int ba, .ref op, .int on, .ref bp, .ref lp, .ref ep, .int bb, .int bc, .int cw, .int cx, .int cf, .ref kp])), (tp, .inl (cB, 16384, .inl f))]) ∨ (∃ m1 : Nat, (m9 = nI m1 ∧ 2 ≤ m1 ∧ m1 ≤ 8) ∧ o = .returned none ∧ w = [(ma, .inr (5, [.int 0, .ref tp, .int (nI tn), .ref rp, .int (nI rn), .ref dp, .int dn, .ref wp, .int wn, .int ba, .ref op, .int on, .ref bp, .ref lp, .ref ep, .int bb, .int bc, .int cw, .int cx, .int cf, .ref kp])), (tp, .inl (cB, 16384, .inl (zmk m1 f tn)))])) := by
  refine zx_K.mk (Nat.le_of_ble_eq_true rfl) (fun p e s mm below meth c9 C hr hlk ht hnm => ?_)
  have go : ¬ (m9 < 2 ∨ 8 < m9) → zx_At p l e R s mm (([.ref ma, .int m9] : List Value)).toArray below meth c9 (zx_Q below s D zcl [(ma, .inr (5, [.int fl, .ref tp, .int (nI tn), .ref rp, .int (nI rn), .ref dp, .int dn, .ref wp, .int wn, .int ba, .ref op, .int on, .ref bp, .ref lp, .ref ep, .int bb, .int bc, .int cw, .int cx, .int cf, .ref kp])), (tp, .inl (cB, 16384, .inl f))] 0 0 R (fun o w => ((m9 < 2 ∨ 8 < m9) ∧ o = .returned none ∧ w = [(ma, .inr (5, [.int 1, .ref tp, .int (nI tn), .ref rp, .int (nI rn), .ref dp, .int dn, .ref wp, .int wn, .int ba, .ref op, .int on, .ref bp, .ref lp, .ref ep, .int bb, .int bc, .int cw, .int cx, .int cf, .ref kp])), (tp, .inl (cB, 16384, .inl f))]) ∨ (∃ m1 : Nat, (m9 = nI m1 ∧ 2 ≤ m1 ∧ m1 ≤ 8) ∧ o = .returned none ∧ w = [(ma, .inr (5, [.int 0, .ref tp, .int (nI tn), .ref rp, .int (nI rn), .ref dp, .int dn, .ref wp, .int wn, .int ba, .ref op, .int on, .ref bp, .ref lp, .ref ep, .int bb, .int bc, .int cw, .int cx, .int cf, .ref kp])), (tp, .inl (cB, 16384, .inl (zmk m1 f tn)))]))) D zcl (va_A [(ma, .inr (5, [.int fl, .ref tp, .int (nI tn), .ref rp, .int (nI rn), .ref dp, .int dn, .ref wp, .int wn, .int ba, .ref op, .int on, .ref bp, .ref lp, .ref ep, .int bb, .int bc, .int cw, .int cx, .int cf, .ref kp])), (tp, .inl (cB, 16384, .inl f))] s.heap.size) 3 [(0, .ref ma), (1, .int m9), (2, .int (0 : Int32))] [(ma, .inr (5, [.int (0 : Int32), .ref tp, .int (nI tn), .ref rp, .int (nI rn), .ref dp, .int dn, .ref wp, .int wn, .int ba, .ref op, .int on, .ref bp, .ref lp, .ref ep, .int bb, .int bc, .int cw, .int cx, .int cf, .ref kp])), (tp, .inl (cB, 16384, .inl f))] 0 0 26 [] := by
    intro h
    obtain ⟨m, hm9, hm⟩ := zm_ok h
    subst hm9
    have hp1 : 1 ≤ 2 ^ m := Nat.one_le_two_pow
    have loop : ∀ (d i : Nat), i + d = tn → zx_At p l e R s mm (([.ref ma, .int (nI m)] : List Value)).toArray below meth c9 (zx_Q below s D zcl [(ma, .inr (5, [.int fl, .ref tp, .int (nI tn), .ref rp, .int (nI rn), .ref dp, .int dn, .ref wp, .int wn, .int ba, .ref op, .int on, .ref bp, .ref lp, .ref ep, .int bb, .int bc, .int cw, .int cx, .int cf, .ref kp])), (tp, .inl (cB, 16384, .inl f))] 0 0 R (fun o w => (((nI m) < 2 ∨ 8 < (nI m)) ∧ o = .returned none ∧ w = [(ma, .inr (5, [.int 1, .ref tp, .int (nI tn), .ref rp, .int (nI rn), .ref dp, .int dn, .ref wp, .int wn, .int ba, .ref op, .int on, .ref bp, .ref lp, .ref ep, .int bb, .int bc, .int cw, .int cx, .int cf, .ref kp])), (tp, .inl (cB, 16384, .inl f))]) ∨ (∃ m1 : Nat, ((nI m) = nI m1 ∧ 2 ≤ m1 ∧ m1 ≤ 8) ∧ o = .returned none ∧ w = [(ma, .inr (5, [.int 0, .ref tp, .int (nI tn), .ref rp, .int (nI rn), .ref dp, .int dn, .ref wp, .int wn, .int ba, .ref op, .int on, .ref bp, .ref lp, .ref ep, .int bb, .int bc, .int cw, .int cx, .int cf, .ref kp])), (tp, .inl (cB, 16384, .inl (zmk m1 f tn)))]))) D zcl (va_A [(ma, .inr (5, [.int fl, .ref tp, .int (nI tn), .ref rp, .int (nI rn), .ref dp, .int dn, .ref wp, .int wn, .int ba, .ref op, .int on, .ref bp, .ref lp, .ref ep, .int bb, .int bc, .int cw, .int cx, .int cf, .ref kp])), (tp, .inl (cB, 16384, .inl f))] s.heap.size) 3 [(0, .ref ma), (1, .int (nI m)), (2, .int (nI i))] [(ma, .inr (5, [.int (0 : Int32), .ref tp, .int (nI tn), .ref rp, .int (nI rn), .ref dp, .int dn, .ref wp, .int wn, .int ba, .ref op, .int on, .ref bp, .ref lp, .ref ep, .int bb, .int bc, .int cw, .int cx, .int cf, .ref kp])), (tp, .inl (cB, 16384, .inl (zmk m f i)))] 0 0 26 [] := by
      intro d
      induction d with
      | zero =>
        intro i hi
        have key : nI tn ≤ nI i := by rw [show i = tn by omega]; exact Int32.le_refl _
        exact sg_MO_mask26 C hr hlk (fun _ => Or.inr ⟨m, ⟨rfl, hm⟩, rfl, by rw [show i = tn by omega]⟩) (fun z => absurd key z) (fun z => absurd key z) (fun z => absurd key z) (fun z => absurd key z) (fun z => absurd key z) (fun z => absurd key z)
      | succ d ih =>
        intro i hi
        have nk : ¬ nI tn ≤ nI i := fun z => absurd ((nI_leI (by omega) (by omega)).mp z) (by omega)
        refine sg_MO_mask26 C hr hlk (fun z => absurd z nk) (fun _ => ⟨rfl, by omega⟩) (fun _ => zp_shl1 m (by omega)) (fun _ => zsub1 hp1) (fun _ => ⟨rfl, by omega⟩) (fun _ => nI_1 i) (fun _ => ?_)
        rw [zmk_s]
        exact ih (i + 1) (by omega)
    have h0 := loop tn 0 (by omega)
    rw [zmk_0] at h0
    exact h0
  refine sg_MO_mask0 C hr hlk (fun h => Or.inl ⟨Or.inl h, rfl, rfl⟩) (fun h1 h2 => go ?_) (fun h1 h2 => Or.inl ⟨Or.inr (zi_nle.mp h2), rfl, rfl⟩)
  intro h
  rcases h with h | h
  · exact h1 h
  · exact zi_nle.mpr h h2
theorem zag_0 (g f : Nat → Int32) : zag g f 0 = g := by funext j; simp [zag]
theorem zag_s {g f : Nat → Int32} {i : Nat} (h : vp_nar .byte (f i) = f i) : upd (zag g f i) i (vp_nar .byte (f i)) = zag g f (i + 1) := by
  funext j
  rw [h]
  unfold upd zag
  by_cases q : j = i
  · subst q; rw [if_pos rfl, if_pos (Nat.lt_succ_self _)]
  · rw [if_neg q]
    by_cases h2 : j < i
    · rw [if_pos h2, if_pos (by omega)]
    · rw [if_neg h2, if_neg (by omega)]
set_option maxRecDepth 100000 in
set_option maxHeartbeats 4000000 in
theorem sg_MO_again0 {p : Program} {l : Launch} {e : Env} {R : Room} {s : State} {mi : MethodId} {args : Array Value} {below : List Frame} {meth : Method} {co : Code} {D : va_G} {cB cI cL : ClassId} {Q : State → Prop} {A : Nat → Prop} (C : zx_C p s mi args co b_MO_again 2 R_MO zB D zcl (zt cB cI cL) A) {ma tp rp dp wp op bp lp ep kp tn rn : Nat} {fl dn wn ba on bb bc cw cx cf : Int32} {f g : Nat → Int32} (k7 : zx_At p l e R s mi args below meth co Q D zcl A 2 [(0, .ref ma), (1, .int (0 : Int32))] [(ma, .inr (5, [.int (0 : Int32), .ref tp, .int (nI tn), .ref rp, .int (nI rn), .ref dp, .int dn, .ref wp, .int wn, .int ba, .ref op, .int on, .ref bp, .ref lp, .ref ep, .int bb, .int bc, .int cw, .int cx, .int cf, .ref kp])), (tp, .inl (cB, 16384, .inl f)), (rp, .inl (cB, 16384, .inl g))] 0 0 7 []) : zx_At p l e R s mi args below meth co Q D zcl A 2 [(0, .ref ma)] [(ma, .inr (5, [.int fl, .ref tp, .int (nI tn), .ref rp, .int (nI rn), .ref dp, .int dn, .ref wp, .int wn, .int ba, .ref op, .int on, .ref bp, .ref lp, .ref ep, .int bb, .int bc, .int cw, .int cx, .int cf, .ref kp])), (tp, .inl (cB, 16384, .inl f)), (rp, .inl (cB, 16384, .inl g))] 0 0 0 [] := by
  refine zx_aload_n (pc := 0) C d_MO_again_0 rfl 0 rfl ?_
  refine zx_iconst (pc := 1) C d_MO_again_1 (v := (0 : Int32)) (by decide) ?_
  refine zx_put (pc := 2) (ci := 5) (Cn := R_MO) (T := T_MO) (N := 21) (v := .int (0 : Int32)) (ty := .int) (ws' := [(ma, .inr (5, [.int (0 : Int32), .ref tp, .int (nI tn), .ref rp, .int (nI rn), .ref dp, .int dn, .ref wp, .int wn, .int ba, .ref op, .int on, .ref bp, .ref lp, .ref ep, .int bb, .int bc, .int cw, .int cx, .int cf, .ref kp])), (tp, .inl (cB, 16384, .inl f)), (rp, .inl (cB, 16384, .inl g))]) C zu_MO ty_MO tyk_MO nm_MO 0 rfl rfl 0 (by decide) zw_703 rfl rfl (by decide +kernel) rfl rfl (Nat.le_of_ble_eq_true rfl) rfl d_MO_again_2 ?_
  refine zx_iconst (pc := 5) C d_MO_again_5 (v := (0 : Int32)) (by decide) ?_
  refine zx_istore_n (pc := 6) C d_MO_again_6 rfl (by decide) (lv' := [(1, .int (0 : Int32)), (0, .ref ma)]) rfl ?_
  refine zx_lv (lv' := [(0, .ref ma), (1, .int (0 : Int32))]) [1, 0] rfl ?_
  exact k7

set_option maxRecDepth 100000 in
set_option maxHeartbeats 4000000 in
theorem sg_MO_again7 {p : Program} {l : Launch} {e : Env} {R : Room} {s : State} {mi : MethodId} {args : Array Value} {below : List Frame} {meth : Method} {co : Code} {D : va_G} {cB cI cL : ClassId} {w0 : va_W} {kr nr : Nat} {post : Outcome → va_W → Prop} (C : zx_C p s mi args co b_MO_again 2 R_MO zB D zcl (zt cB cI cL) (va_A w0 s.heap.size)) {ma tp rp dp wp op bp lp ep kp tn rn  : Nat} {dn wn ba on bb bc cw cx cf : Int32} {i : Nat} {f g : Nat → Int32} (hr9 : meth.sig.returnType = some .int) (hlk9 : meth.locks = false) (r45 : ((nI rn) ≤ (nI i)) → post (.returned (some (.int (nI rn)))) [(ma, .inr (5, [.int (0 : Int32), .ref tp, .int (nI rn), .ref rp, .int (nI rn), .ref dp, .int dn, .ref wp, .int wn, .int ba, .ref op, .int on, .ref bp, .ref lp, .ref ep, .int bb, .int bc, .int cw, .int cx, .int cf, .ref kp])), (tp, .inl (cB, 16384, .inl f)), (rp, .inl (cB, 16384, .inl g))]) (b25 : (¬ (nI rn) ≤ (nI i)) → (nI i) = nI i ∧ i < 16384) (b26 : (¬ (nI rn) ≤ (nI i)) → (nI i) = nI i ∧ i < 16384) (e27 : (¬ (nI rn) ≤ (nI i)) → (nI i) + (1 : Int32) = (nI (i + 1))) (k7 : (¬ (nI rn) ≤ (nI i)) → zx_At p l e R s mi args below meth co (zx_Q below s D zcl w0 kr nr R post) D zcl (va_A w0 s.heap.size) 2 [(0, .ref ma), (1, .int (nI (i + 1)))] [(ma, .inr (5, [.int (0 : Int32), .ref tp, .int (nI tn), .ref rp, .int (nI rn), .ref dp, .int dn, .ref wp, .int wn, .int ba, .ref op, .int on, .ref bp, .ref lp, .ref ep, .int bb, .int bc, .int cw, .int cx, .int cf, .ref kp])), (tp, .inl (cB, 16384, .inl (upd f i (vp_nar .byte (g i))))), (rp, .inl (cB, 16384, .inl g))] 0 0 7 []) : zx_At p l e R s mi args below meth co (zx_Q below s D zcl w0 kr nr R post) D zcl (va_A w0 s.heap.size) 2 [(0, .ref ma), (1, .int (nI i))] [(ma, .inr (5, [.int (0 : Int32), .ref tp, .int (nI tn), .ref rp, .int (nI rn), .ref dp, .int dn, .ref wp, .int wn, .int ba, .ref op, .int on, .ref bp, .ref lp, .ref ep, .int bb, .int bc, .int cw, .int cx, .int cf, .ref kp])), (tp, .inl (cB, 16384, .inl f)), (rp, .inl (cB, 16384, .inl g))] 0 0 7 [] := by
  refine zx_iload_n (pc := 7) C d_MO_again_7 rfl 1 rfl ?_
  refine zx_aload_n (pc := 8) C d_MO_again_8 rfl 0 rfl ?_
  refine zx_get (pc := 9) (ci := 5) (Cn := R_MO) (T := T_MO) (N := 21) (v := .int (nI rn)) C zu_MO 0 rfl rfl 4 (by decide) zw_707 rfl rfl d_MO_again_9 ?_
  refine zx_icmp_ge (pc := 12) C 33 d_MO_again_12 (by decide) (fun c12 => ?_) (fun c12 => ?_)
  · refine zx_aload_n (pc := 33) C d_MO_again_33 rfl 0 rfl ?_
    refine zx_aload_n (pc := 34) C d_MO_again_34 rfl 0 rfl ?_
    refine zx_get (pc := 35) (ci := 5) (Cn := R_MO) (T := T_MO) (N := 21) (v := .int (nI rn)) C zu_MO 0 rfl rfl 4 (by decide) zw_707 rfl rfl d_MO_again_35 ?_
    refine zx_put (pc := 38) (ci := 5) (Cn := R_MO) (T := T_MO) (N := 21) (v := .int (nI rn)) (ty := .int) (ws' := [(ma, .inr (5, [.int (0 : Int32), .ref tp, .int (nI rn), .ref rp, .int (nI rn), .ref dp, .int dn, .ref wp, .int wn, .int ba, .ref op, .int on, .ref bp, .ref lp, .ref ep, .int bb, .int bc, .int cw, .int cx, .int cf, .ref kp])), (tp, .inl (cB, 16384, .inl f)), (rp, .inl (cB, 16384, .inl g))]) C zu_MO ty_MO tyk_MO nm_MO 0 rfl rfl 2 (by decide) zw_705 rfl rfl (by decide +kernel) rfl rfl (Nat.le_of_ble_eq_true rfl) rfl d_MO_again_38 ?_
    refine zx_aload_n (pc := 41) C d_MO_again_41 rfl 0 rfl ?_
    refine zx_get (pc := 42) (ci := 5) (Cn := R_MO) (T := T_MO) (N := 21) (v := .int (nI rn)) C zu_MO 0 rfl rfl 2 (by decide) zw_705 rfl rfl d_MO_again_42 ?_
    exact zx_iret (pc := 45) C hr9 hlk9 (Nat.zero_le _) (Nat.zero_le _) d_MO_again_45 (r45 c12)
  · refine zx_aload_n (pc := 15) C d_MO_again_15 rfl 0 rfl ?_
    refine zx_get (pc := 16) (ci := 5) (Cn := R_MO) (T := T_MO) (N := 21) (v := .ref tp) C zu_MO 0 rfl rfl 1 (by decide) zw_704 rfl rfl d_MO_again_16 ?_
    refine zx_iload_n (pc := 19) C d_MO_again_19 rfl 1 rfl ?_
    refine zx_aload_n (pc := 20) C d_MO_again_20 rfl 0 rfl ?_
    refine zx_get (pc := 21) (ci := 5) (Cn := R_MO) (T := T_MO) (N := 21) (v := .ref rp) C zu_MO 0 rfl rfl 3 (by decide) zw_706 rfl rfl d_MO_again_21 ?_
    refine zx_iload_n (pc := 24) C d_MO_again_24 rfl 1 rfl ?_
    refine zx_bald (pc := 25) C 2 0 rfl rfl i (b25 c12).1 (b25 c12).2 (by decide) d_MO_again_25 ?_
    refine zx_bast (pc := 26) (ws' := [(ma, .inr (5, [.int (0 : Int32), .ref tp, .int (nI tn), .ref rp, .int (nI rn), .ref dp, .int dn, .ref wp, .int wn, .int ba, .ref op, .int on, .ref bp, .ref lp, .ref ep, .int bb, .int bc, .int cw, .int cx, .int cf, .ref kp])), (tp, .inl (cB, 16384, .inl (upd f i (vp_nar .byte (g i))))), (rp, .inl (cB, 16384, .inl g))]) C 1 0 rfl rfl i (b26 c12).1 (b26 c12).2 (by decide) rfl d_MO_again_26 ?_
    refine zx_iinc (pc := 27) C d_MO_again_27 1 rfl (v := (nI (i + 1))) (e27 c12) (by decide) (lv' := [(1, .int (nI (i + 1))), (0, .ref ma)]) rfl ?_
    refine zx_goto (pc := 30) C 7 d_MO_again_30 (by decide) ?_
    refine zx_lv (lv' := [(0, .ref ma), (1, .int (nI (i + 1)))]) [1, 0] rfl ?_
    exact k7 c12

theorem k_MO_again (l : Launch) (D : va_G) (cB cI cL : ClassId) (R : Room) (ma tp rp dp wp op bp lp ep kp tn rn : Nat) (fl dn wn ba on bb bc cw cx cf : Int32) (f g : Nat → Int32) (hr8 : rn ≤ 16384) (hby : ∀ j, vp_nar .byte (g j) = g j) : zx_K l zB D zcl (zt cB cI cL) y_MO_again b_MO_again 2 (some .int) [] 0 0 R [.ref ma] [(ma, .inr (5, [.int fl, .ref tp, .int (nI tn), .ref rp, .int (nI rn), .ref dp, .int dn, .ref wp, .int wn, .int ba, .ref op, .int on, .ref bp, .ref lp, .ref ep, .int bb, .int bc, .int cw, .int cx, .int cf, .ref kp])), (tp, .inl (cB, 16384, .inl f)), (rp, .inl (cB, 16384, .inl g))] (fun o w => o = .returned (some (.int (nI rn))) ∧ w = [(ma, .inr (5, [.int 0, .ref tp, .int (nI rn), .ref rp, .int (nI rn), .ref dp, .int dn, .ref wp, .int wn, .int ba, .ref op, .int on, .ref bp, .ref lp, .ref ep, .int bb, .int bc, .int cw, .int cx, .int cf, .ref kp])), (tp, .inl (cB, 16384, .inl (zag f g rn))), (rp, .inl (cB, 16384, .inl g))]) := by
  refine zx_K.mk (Nat.le_of_ble_eq_true rfl) (fun p e s mm below meth c9 C hr hlk ht hnm => ?_)
  have loop : ∀ (d i : Nat), i + d = rn → zx_At p l e R s mm (([.ref ma] : List Value)).toArray below meth c9 (zx_Q below s D zcl [(ma, .inr (5, [.int fl, .ref tp, .int (nI tn), .ref rp, .int (nI rn), .ref dp, .int dn, .ref wp, .int wn, .int ba, .ref op, .int on, .ref bp, .ref lp, .ref ep, .int bb, .int bc, .int cw, .int cx, .int cf, .ref kp])), (tp, .inl (cB, 16384, .inl f)), (rp, .inl (cB, 16384, .inl g))] 0 0 R (fun o w => o = .returned (some (.int (nI rn))) ∧ w = [(ma, .inr (5, [.int 0, .ref tp, .int (nI rn), .ref rp, .int (nI rn), .ref dp, .int dn, .ref wp, .int wn, .int ba, .ref op, .int on, .ref bp, .ref lp, .ref ep, .int bb, .int bc, .int cw, .int cx, .int cf, .ref kp])), (tp, .inl (cB, 16384, .inl (zag f g rn))), (rp, .inl (cB, 16384, .inl g))])) D zcl (va_A [(ma, .inr (5, [.int fl, .ref tp, .int (nI tn), .ref rp, .int (nI rn), .ref dp, .int dn, .ref wp, .int wn, .int ba, .ref op, .int on, .ref bp, .ref lp, .ref ep, .int bb, .int bc, .int cw, .int cx, .int cf, .ref kp])), (tp, .inl (cB, 16384, .inl f)), (rp, .inl (cB, 16384, .inl g))] s.heap.size) 2 [(0, .ref ma), (1, .int (nI i))] [(ma, .inr (5, [.int (0 : Int32), .ref tp, .int (nI tn), .ref rp, .int (nI rn), .ref dp, .int dn, .ref wp, .int wn, .int ba, .ref op, .int on, .ref bp, .ref lp, .ref ep, .int bb, .int bc, .int cw, .int cx, .int cf, .ref kp])), (tp, .inl (cB, 16384, .inl (zag f g i))), (rp, .inl (cB, 16384, .inl g))] 0 0 7 [] := by
    intro d
    induction d with
    | zero =>
      intro i hi
      have key : nI rn ≤ nI i := by rw [show i = rn by omega]; exact Int32.le_refl _
      exact sg_MO_again7 C hr hlk (fun _ => ⟨rfl, by rw [show i = rn by omega]⟩) (fun z => absurd key z) (fun z => absurd key z) (fun z => absurd key z) (fun z => absurd key z)
    | succ d ih =>
      intro i hi
      have nk : ¬ nI rn ≤ nI i := fun z => absurd ((nI_leI (by omega) (by omega)).mp z) (by omega)
      refine sg_MO_again7 C hr hlk (fun z => absurd z nk) (fun _ => ⟨rfl, by omega⟩) (fun _ => ⟨rfl, by omega⟩) (fun _ => nI_1 i) (fun _ => ?_)
      rw [zag_s (hby i)]
      exact ih (i + 1) (by omega)
  refine sg_MO_again0 C ?_
  have h0 := loop rn 0 (by omega)
  rw [zag_0] at h0
  exact h0
set_option maxRecDepth 100000 in
set_option maxHeartbeats 4000000 in
theorem sg_MO_word0 {p : Program} {l : Launch} {e : Env} {s : State} {mi : MethodId} {args : Array Value} {below : List Frame} {meth : Method} {co : Code} {D : va_G} {cB cI cL : ClassId} {w0 : va_W} {kr nr : Nat} {post : Outcome → va_W → Prop} (C : zx_C p s mi args co b_MO_word 5 R_MO zB D zcl (zt cB cI cL) (va_A w0 s.heap.size)) {ma tp rp dp wp op bp lp ep kp tn rn : Nat} {fl dn wn ba on bb bc cw cx cf : Int32} {i9 : Int32} {g : Nat → Int32} (hr9 : meth.sig.returnType = some .long) (hlk9 : meth.locks = false) (r23 : (i9 < 0) → post (.returned (some (.long ((0 : Int32).toInt64)))) [(ma, .inr (5, [.int (1 : Int32), .ref tp, .int (nI tn), .ref rp, .int (nI rn), .ref dp, .int dn, .ref wp, .int wn, .int ba, .ref op, .int on, .ref bp, .ref lp, .ref ep, .int bb, .int bc, .int cw, .int cx, .int cf, .ref kp])), (rp, .inl (cB, 16384, .inl g))]) (k29 : (¬ i9 < 0) → (i9 < (nI rn)) → zx_At p l e (zr 1 0 0) s mi args below meth co (zx_Q below s D zcl w0 kr nr (zr 1 0 0) post) D zcl (va_A w0 s.heap.size) 5 [(0, .ref ma), (1, .int i9), (2, .long (0 : Int64)), (4, .int i9)] [(ma, .inr (5, [.int (0 : Int32), .ref tp, .int (nI tn), .ref rp, .int (nI rn), .ref dp, .int dn, .ref wp, .int wn, .int ba, .ref op, .int on, .ref bp, .ref lp, .ref ep, .int bb, .int bc, .int cw, .int cx, .int cf, .ref kp])), (rp, .inl (cB, 16384, .inl g))] 0 0 29 []) (r23_2 : (¬ i9 < 0) → (¬ i9 < (nI rn)) → post (.returned (some (.long ((0 : Int32).toInt64)))) [(ma, .inr (5, [.int (1 : Int32), .ref tp, .int (nI tn), .ref rp, .int (nI rn), .ref dp, .int dn, .ref wp, .int wn, .int ba, .ref op, .int on, .ref bp, .ref lp, .ref ep, .int bb, .int bc, .int cw, .int cx, .int cf, .ref kp])), (rp, .inl (cB, 16384, .inl g))]) : zx_At p l e (zr 1 0 0) s mi args below meth co (zx_Q below s D zcl w0 kr nr (zr 1 0 0) post) D zcl (va_A w0 s.heap.size) 5 [(0, .ref ma), (1, .int i9)] [(ma, .inr (5, [.int fl, .ref tp, .int (nI tn), .ref rp, .int (nI rn), .ref dp, .int dn, .ref wp, .int wn, .int ba, .ref op, .int on, .ref bp, .ref lp, .ref ep, .int bb, .int bc, .int cw, .int cx, .int cf, .ref kp])), (rp, .inl (cB, 16384, .inl g))] 0 0 0 [] := by
  refine zx_aload_n (pc := 0) C d_MO_word_0 rfl 0 rfl ?_
  refine zx_iconst (pc := 1) C d_MO_word_1 (v := (0 : Int32)) (by decide) ?_
  refine zx_put (pc := 2) (ci := 5) (Cn := R_MO) (T := T_MO) (N := 21) (v := .int (0 : Int32)) (ty := .int) (ws' := [(ma, .inr (5, [.int (0 : Int32), .ref tp, .int (nI tn), .ref rp, .int (nI rn), .ref dp, .int dn, .ref wp, .int wn, .int ba, .ref op, .int on, .ref bp, .ref lp, .ref ep, .int bb, .int bc, .int cw, .int cx, .int cf, .ref kp])), (rp, .inl (cB, 16384, .inl g))]) C zu_MO ty_MO tyk_MO nm_MO 0 rfl rfl 0 (by decide) zw_703 rfl rfl (by decide +kernel) rfl rfl (Nat.le_of_ble_eq_true rfl) rfl d_MO_word_2 ?_
  refine zx_iload_n (pc := 5) C d_MO_word_5 rfl 1 rfl ?_
  refine zx_if_lt (pc := 6) C 17 d_MO_word_6 (by decide) (fun c6 => ?_) (fun c6 => ?_)
  · refine zx_aload_n (pc := 17) C d_MO_word_17 rfl 0 rfl ?_
    refine zx_iconst (pc := 18) C d_MO_word_18 (v := (1 : Int32)) (by decide) ?_
    refine zx_callV (pc := 19) (ix := 109) (As := [.int (1 : Int32)]) (b := ma) (q0 := 0) (wr := [(rp, .inl (cB, 16384, .inl g))]) (st := []) C (zx_cw.of (C.w zw_780)) (by decide +kernel) ⟨by decide +kernel, by decide +kernel⟩ zw_779 zs_MO_fail zw_777 rfl rfl rfl rfl rfl (k_MO_fail l D cB cI cL (zr 0 0 0) ma tp rp dp wp op bp lp ep kp tn rn (0 : Int32) dn wn ba on bb bc cw cx cf (1 : Int32)) rfl [0] [1] rfl rfl (by decide) (by decide) (by decide) (Nat.le_of_ble_eq_true rfl) (Nat.le_of_ble_eq_true rfl) (Nat.le_of_ble_eq_true rfl) (Nat.le_of_ble_eq_true rfl) d_MO_word_19 (fun o w1 hp => ?_)
    obtain ⟨rfl, rfl⟩ := hp
    refine zx_ri (k2 := 0) (n2 := 0) rfl rfl ?_
    refine zx_ws (ws' := [(ma, .inr (5, [.int (1 : Int32), .ref tp, .int (nI tn), .ref rp, .int (nI rn), .ref dp, .int dn, .ref wp, .int wn, .int ba, .ref op, .int on, .ref bp, .ref lp, .ref ep, .int bb, .int bc, .int cw, .int cx, .int cf, .ref kp])), (rp, .inl (cB, 16384, .inl g))]) [1, 0] (by decide) rfl ?_
    refine zx_i2l (pc := 22) C d_MO_word_22 rfl ?_
    exact zx_lret (pc := 23) C hr9 hlk9 (Nat.zero_le _) (Nat.zero_le _) d_MO_word_23 (r23 c6)
  · refine zx_iload_n (pc := 9) C d_MO_word_9 rfl 1 rfl ?_
    refine zx_aload_n (pc := 10) C d_MO_word_10 rfl 0 rfl ?_
    refine zx_get (pc := 11) (ci := 5) (Cn := R_MO) (T := T_MO) (N := 21) (v := .int (nI rn)) C zu_MO 0 rfl rfl 4 (by decide) zw_707 rfl rfl d_MO_word_11 ?_
    refine zx_icmp_lt (pc := 14) C 24 d_MO_word_14 (by decide) (fun c14 => ?_) (fun c14 => ?_)
    · refine zx_lconst (pc := 24) C d_MO_word_24 (v := (0 : Int64)) (by decide) ?_
      refine zx_lstore_n (pc := 25) C d_MO_word_25 rfl (by decide) (lv' := [(2, .long (0 : Int64)), (0, .ref ma), (1, .int i9)]) rfl ?_
      refine zx_iload_n (pc := 26) C d_MO_word_26 rfl 2 rfl ?_
      refine zx_istore (pc := 27) C d_MO_word_27 (by decide) (lv' := [(4, .int i9), (2, .long (0 : Int64)), (0, .ref ma), (1, .int i9)]) rfl ?_
      refine zx_lv (lv' := [(0, .ref ma), (1, .int i9), (2, .long (0 : Int64)), (4, .int i9)]) [2, 3, 1, 0] rfl ?_
      exact k29 c6 c14
    · refine zx_aload_n (pc := 17) C d_MO_word_17 rfl 0 rfl ?_
      refine zx_iconst (pc := 18) C d_MO_word_18 (v := (1 : Int32)) (by decide) ?_
      refine zx_callV (pc := 19) (ix := 109) (As := [.int (1 : Int32)]) (b := ma) (q0 := 0) (wr := [(rp, .inl (cB, 16384, .inl g))]) (st := []) C (zx_cw.of (C.w zw_780)) (by decide +kernel) ⟨by decide +kernel, by decide +kernel⟩ zw_779 zs_MO_fail zw_777 rfl rfl rfl rfl rfl (k_MO_fail l D cB cI cL (zr 0 0 0) ma tp rp dp wp op bp lp ep kp tn rn (0 : Int32) dn wn ba on bb bc cw cx cf (1 : Int32)) rfl [0] [1] rfl rfl (by decide) (by decide) (by decide) (Nat.le_of_ble_eq_true rfl) (Nat.le_of_ble_eq_true rfl) (Nat.le_of_ble_eq_true rfl) (Nat.le_of_ble_eq_true rfl) d_MO_word_19 (fun o w1 hp => ?_)
      obtain ⟨rfl, rfl⟩ := hp
      refine zx_ri (k2 := 0) (n2 := 0) rfl rfl ?_
      refine zx_ws (ws' := [(ma, .inr (5, [.int (1 : Int32), .ref tp, .int (nI tn), .ref rp, .int (nI rn), .ref dp, .int dn, .ref wp, .int wn, .int ba, .ref op, .int on, .ref bp, .ref lp, .ref ep, .int bb, .int bc, .int cw, .int cx, .int cf, .ref kp])), (rp, .inl (cB, 16384, .inl g))]) [1, 0] (by decide) rfl ?_
      refine zx_i2l (pc := 22) C d_MO_word_22 rfl ?_
      exact zx_lret (pc := 23) C hr9 hlk9 (Nat.zero_le _) (Nat.zero_le _) d_MO_word_23 (r23_2 c6 c14)

set_option maxRecDepth 100000 in
set_option maxHeartbeats 4000000 in
theorem sg_MO_word29 {p : Program} {l : Launch} {e : Env} {R : Room} {s : State} {mi : MethodId} {args : Array Value} {below : List Frame} {meth : Method} {co : Code} {D : va_G} {cB cI cL : ClassId} {w0 : va_W} {kr nr : Nat} {post : Outcome → va_W → Prop} (C : zx_C p s mi args co b_MO_word 5 R_MO zB D zcl (zt cB cI cL) (va_A w0 s.heap.size)) {ma tp rp dp wp op bp lp ep kp tn rn  : Nat} {dn wn ba on bb bc cw cx cf : Int32} {i k : Nat} {x9 : Int64} {g : Nat → Int32} (hr9 : meth.sig.returnType = some .long) (hlk9 : meth.locks = false) (e34 : ((nI i) + (8 : Int32)) = (nI (i + 8))) (r77 : ((nI (i + 8)) ≤ (nI (i + k))) → post (.returned (some (.long x9))) [(ma, .inr (5, [.int (0 : Int32), .ref tp, .int (nI tn), .ref rp, .int (nI rn), .ref dp, .int dn, .ref wp, .int wn, .int ba, .ref op, .int on, .ref bp, .ref lp, .ref ep, .int bb, .int bc, .int cw, .int cx, .int cf, .ref kp])), (rp, .inl (cB, 16384, .inl g))]) (k67 : (¬ (nI (i + 8)) ≤ (nI (i + k))) → ((nI rn) ≤ (nI (i + k))) → zx_At p l e R s mi args below meth co (zx_Q below s D zcl w0 kr nr R post) D zcl (va_A w0 s.heap.size) 5 [(0, .ref ma), (1, .int (nI i)), (2, .long x9), (4, .int (nI (i + k)))] [(ma, .inr (5, [.int (0 : Int32), .ref tp, .int (nI tn), .ref rp, .int (nI rn), .ref dp, .int dn, .ref wp, .int wn, .int ba, .ref op, .int on, .ref bp, .ref lp, .ref ep, .int bb, .int bc, .int cw, .int cx, .int cf, .ref kp])), (rp, .inl (cB, 16384, .inl g))] 0 0 67 [.int (0 : Int32), .long (x9 * (256 : Int64))]) (b58 : (¬ (nI (i + 8)) ≤ (nI (i + k))) → (¬ (nI rn) ≤ (nI (i + k))) → (nI (i + k)) = nI (i + k) ∧ (i + k) < 16384) (e62 : (¬ (nI (i + 8)) ≤ (nI (i + k))) → (¬ (nI rn) ≤ (nI (i + k))) → ((g (i + k)) &&& (255 : Int32)) = (nI (zu (g (i + k))))) (k67_2 : (¬ (nI (i + 8)) ≤ (nI (i + k))) → (¬ (nI rn) ≤ (nI (i + k))) → zx_At p l e R s mi args below meth co (zx_Q below s D zcl w0 kr nr R post) D zcl (va_A w0 s.heap.size) 5 [(0, .ref ma), (1, .int (nI i)), (2, .long x9), (4, .int (nI (i + k)))] [(ma, .inr (5, [.int (0 : Int32), .ref tp, .int (nI tn), .ref rp, .int (nI rn), .ref dp, .int dn, .ref wp, .int wn, .int ba, .ref op, .int on, .ref bp, .ref lp, .ref ep, .int bb, .int bc, .int cw, .int cx, .int cf, .ref kp])), (rp, .inl (cB, 16384, .inl g))] 0 0 67 [.int (nI (zu (g (i + k)))), .long (x9 * (256 : Int64))]) : zx_At p l e R s mi args below meth co (zx_Q below s D zcl w0 kr nr R post) D zcl (va_A w0 s.heap.size) 5 [(0, .ref ma), (1, .int (nI i)), (2, .long x9), (4, .int (nI (i + k)))] [(ma, .inr (5, [.int (0 : Int32), .ref tp, .int (nI tn), .ref rp, .int (nI rn), .ref dp, .int dn, .ref wp, .int wn, .int ba, .ref op, .int on, .ref bp, .ref lp, .ref ep, .int bb, .int bc, .int cw, .int cx, .int cf, .ref kp])), (rp, .inl (cB, 16384, .inl g))] 0 0 29 [] := by
  refine zx_iload (pc := 29) C d_MO_word_29 3 rfl ?_
  refine zx_iload_n (pc := 31) C d_MO_word_31 rfl 1 rfl ?_
  refine zx_bipush (pc := 32) C d_MO_word_32 (v := (8 : Int32)) (by decide) ?_
  refine zx_iadd (pc := 34) C d_MO_word_34 ?_
  refine zx_seti (nI (i + 8)) (e34) ?_
  refine zx_icmp_ge (pc := 35) C 76 d_MO_word_35 (by decide) (fun c35 => ?_) (fun c35 => ?_)
  · refine zx_lload_n (pc := 76) C d_MO_word_76 rfl 2 rfl ?_
    exact zx_lret (pc := 77) C hr9 hlk9 (Nat.zero_le _) (Nat.zero_le _) d_MO_word_77 (r77 c35)
  · refine zx_lload_n (pc := 38) C d_MO_word_38 rfl 2 rfl ?_
    refine zx_ldc2 (pc := 39) C zw_863 d_MO_word_39 ?_
    refine zx_lmul (pc := 42) C d_MO_word_42 ?_
    refine zx_iload (pc := 43) C d_MO_word_43 3 rfl ?_
    refine zx_aload_n (pc := 45) C d_MO_word_45 rfl 0 rfl ?_
    refine zx_get (pc := 46) (ci := 5) (Cn := R_MO) (T := T_MO) (N := 21) (v := .int (nI rn)) C zu_MO 0 rfl rfl 4 (by decide) zw_707 rfl rfl d_MO_word_46 ?_
    refine zx_icmp_ge (pc := 49) C 66 d_MO_word_49 (by decide) (fun c49 => ?_) (fun c49 => ?_)
    · refine zx_iconst (pc := 66) C d_MO_word_66 (v := (0 : Int32)) (by decide) ?_
      exact k67 c35 c49
    · refine zx_aload_n (pc := 52) C d_MO_word_52 rfl 0 rfl ?_
      refine zx_get (pc := 53) (ci := 5) (Cn := R_MO) (T := T_MO) (N := 21) (v := .ref rp) C zu_MO 0 rfl rfl 3 (by decide) zw_706 rfl rfl d_MO_word_53 ?_
      refine zx_iload (pc := 56) C d_MO_word_56 3 rfl ?_
      refine zx_bald (pc := 58) C 1 0 rfl rfl (i + k) (b58 c35 c49).1 (b58 c35 c49).2 (by decide) d_MO_word_58 ?_
      refine zx_sipush (pc := 59) C d_MO_word_59 (v := (255 : Int32)) (by decide) ?_
      refine zx_iand (pc := 62) C d_MO_word_62 ?_
      refine zx_seti (nI (zu (g (i + k)))) (e62 c35 c49) ?_
      refine zx_goto (pc := 63) C 67 d_MO_word_63 (by decide) ?_
      exact k67_2 c35 c49

set_option maxRecDepth 100000 in
set_option maxHeartbeats 4000000 in
theorem sg_MO_word67 {p : Program} {l : Launch} {e : Env} {R : Room} {s : State} {mi : MethodId} {args : Array Value} {below : List Frame} {meth : Method} {co : Code} {D : va_G} {cB cI cL : ClassId} {Q : State → Prop} {A : Nat → Prop} (C : zx_C p s mi args co b_MO_word 5 R_MO zB D zcl (zt cB cI cL) A) {ma tp rp dp wp op bp lp ep kp tn rn  : Nat} {dn wn ba on bb bc cw cx cf : Int32} {i k v : Nat} {x9 y9 : Int64} {g : Nat → Int32} (e68 : ((x9 * (256 : Int64)) + ((nI v).toInt64)) = y9) (e70 : (nI (i + k)) + (1 : Int32) = (nI (i + (k + 1)))) (k29 : zx_At p l e R s mi args below meth co Q D zcl A 5 [(0, .ref ma), (1, .int (nI i)), (2, .long y9), (4, .int (nI (i + (k + 1))))] [(ma, .inr (5, [.int (0 : Int32), .ref tp, .int (nI tn), .ref rp, .int (nI rn), .ref dp, .int dn, .ref wp, .int wn, .int ba, .ref op, .int on, .ref bp, .ref lp, .ref ep, .int bb, .int bc, .int cw, .int cx, .int cf, .ref kp])), (rp, .inl (cB, 16384, .inl g))] 0 0 29 []) : zx_At p l e R s mi args below meth co Q D zcl A 5 [(0, .ref ma), (1, .int (nI i)), (2, .long x9), (4, .int (nI (i + k)))] [(ma, .inr (5, [.int (0 : Int32), .ref tp, .int (nI tn), .ref rp, .int (nI rn), .ref dp, .int dn, .ref wp, .int wn, .int ba, .ref op, .int on, .ref bp, .ref lp, .ref ep, .int bb, .int bc, .int cw, .int cx, .int cf, .ref kp])), (rp, .inl (cB, 16384, .inl g))] 0 0 67 [.int (nI v), .long (x9 * (256 : Int64))] := by
  refine zx_i2l (pc := 67) C d_MO_word_67 rfl ?_
  refine zx_ladd (pc := 68) C d_MO_word_68 ?_
  refine zx_setl y9 (e68) ?_
  refine zx_lstore_n (pc := 69) C d_MO_word_69 rfl (by decide) (lv' := [(2, .long y9), (0, .ref ma), (1, .int (nI i)), (4, .int (nI (i + k)))]) rfl ?_
  refine zx_iinc (pc := 70) C d_MO_word_70 3 rfl (v := (nI (i + (k + 1)))) (e70) (by decide) (lv' := [(4, .int (nI (i + (k + 1)))), (2, .long y9), (0, .ref ma), (1, .int (nI i))]) rfl ?_
  refine zx_goto (pc := 73) C 29 d_MO_word_73 (by decide) ?_
  refine zx_lv (lv' := [(0, .ref ma), (1, .int (nI i)), (2, .long y9), (4, .int (nI (i + (k + 1))))]) [2, 3, 1, 0] rfl ?_
  exact k29

theorem k_MO_word (l : Launch) (D : va_G) (cB cI cL : ClassId) (ma tp rp dp wp op bp lp ep kp tn rn : Nat) (fl dn wn ba on bb bc cw cx cf : Int32) (i9 : Int32) (g : Nat → Int32) (hr8 : rn ≤ 16384) : zx_K l zB D zcl (zt cB cI cL) y_MO_word b_MO_word 5 (some .long) [] 0 0 (zr 1 0 0) [.ref ma, .int i9] [(ma, .inr (5, [.int fl, .ref tp, .int (nI tn), .ref rp, .int (nI rn), .ref dp, .int dn, .ref wp, .int wn, .int ba, .ref op, .int on, .ref bp, .ref lp, .ref ep, .int bb, .int bc, .int cw, .int cx, .int cf, .ref kp])), (rp, .inl (cB, 16384, .inl g))] (fun o w => ((i9 < 0 ∨ nI rn ≤ i9) ∧ o = .returned (some (.long 0)) ∧ w = [(ma, .inr (5, [.int 1, .ref tp, .int (nI tn), .ref rp, .int (nI rn), .ref dp, .int dn, .ref wp, .int wn, .int ba, .ref op, .int on, .ref bp, .ref lp, .ref ep, .int bb, .int bc, .int cw, .int cx, .int cf, .ref kp])), (rp, .inl (cB, 16384, .inl g))]) ∨ (∃ i1 : Nat, (i9 = nI i1 ∧ i1 < rn) ∧ o = .returned (some (.long (zwd (zwg g rn i1) 8))) ∧ w = [(ma, .inr (5, [.int 0, .ref tp, .int (nI tn), .ref rp, .int (nI rn), .ref dp, .int dn, .ref wp, .int wn, .int ba, .ref op, .int on, .ref bp, .ref lp, .ref ep, .int bb, .int bc, .int cw, .int cx, .int cf, .ref kp])), (rp, .inl (cB, 16384, .inl g))])) := by
  refine zx_K.mk (Nat.le_of_ble_eq_true rfl) (fun p e s mm below meth c9 C hr hlk ht hnm => ?_)
  refine sg_MO_word0 C hr hlk (fun h => Or.inl ⟨Or.inl h, rfl, rfl⟩) (fun h1 h2 => ?_) (fun h1 h2 => Or.inl ⟨Or.inr (zi_nlt.mp h2), rfl, rfl⟩)
  obtain ⟨i, hi9, hi⟩ := zi_nn h1
  subst hi9
  have hir : i < rn := (nI_ltI hi (by omega)).mp h2
  have loop : ∀ (d k : Nat), k + d = 8 → zx_At p l e (zr 1 0 0) s mm (([.ref ma, .int (nI i)] : List Value)).toArray below meth c9 (zx_Q below s D zcl [(ma, .inr (5, [.int fl, .ref tp, .int (nI tn), .ref rp, .int (nI rn), .ref dp, .int dn, .ref wp, .int wn, .int ba, .ref op, .int on, .ref bp, .ref lp, .ref ep, .int bb, .int bc, .int cw, .int cx, .int cf, .ref kp])), (rp, .inl (cB, 16384, .inl g))] 0 0 (zr 1 0 0) (fun o w => (((nI i) < 0 ∨ nI rn ≤ (nI i)) ∧ o = .returned (some (.long 0)) ∧ w = [(ma, .inr (5, [.int 1, .ref tp, .int (nI tn), .ref rp, .int (nI rn), .ref dp, .int dn, .ref wp, .int wn, .int ba, .ref op, .int on, .ref bp, .ref lp, .ref ep, .int bb, .int bc, .int cw, .int cx, .int cf, .ref kp])), (rp, .inl (cB, 16384, .inl g))]) ∨ (∃ i1 : Nat, ((nI i) = nI i1 ∧ i1 < rn) ∧ o = .returned (some (.long (zwd (zwg g rn i1) 8))) ∧ w = [(ma, .inr (5, [.int 0, .ref tp, .int (nI tn), .ref rp, .int (nI rn), .ref dp, .int dn, .ref wp, .int wn, .int ba, .ref op, .int on, .ref bp, .ref lp, .ref ep, .int bb, .int bc, .int cw, .int cx, .int cf, .ref kp])), (rp, .inl (cB, 16384, .inl g))]))) D zcl (va_A [(ma, .inr (5, [.int fl, .ref tp, .int (nI tn), .ref rp, .int (nI rn), .ref dp, .int dn, .ref wp, .int wn, .int ba, .ref op, .int on, .ref bp, .ref lp, .ref ep, .int bb, .int bc, .int cw, .int cx, .int cf, .ref kp])), (rp, .inl (cB, 16384, .inl g))] s.heap.size) 5 [(0, .ref ma), (1, .int (nI i)), (2, .long (zwd (zwg g rn i) k)), (4, .int (nI (i + k)))] [(ma, .inr (5, [.int (0 : Int32), .ref tp, .int (nI tn), .ref rp, .int (nI rn), .ref dp, .int dn, .ref wp, .int wn, .int ba, .ref op, .int on, .ref bp, .ref lp, .ref ep, .int bb, .int bc, .int cw, .int cx, .int cf, .ref kp])), (rp, .inl (cB, 16384, .inl g))] 0 0 29 [] := by
    intro d
    induction d with
    | zero =>
      intro k hk
      have hk8 : k = 8 := by omega
      subst hk8
      have key : nI (i + 8) ≤ nI (i + 8) := Int32.le_refl _
      exact sg_MO_word29 C hr hlk (nI_addI i 8) (fun _ => Or.inr ⟨i, ⟨rfl, hir⟩, rfl, rfl⟩) (fun z => absurd key z) (fun z => absurd key z) (fun z => absurd key z) (fun z => absurd key z)
    | succ d ih =>
      intro k hk
      have nk : ¬ nI (i + 8) ≤ nI (i + k) := fun z => absurd ((nI_leI (by omega) (by omega)).mp z) (by omega)
      have kk : nI rn ≤ nI (i + k) ↔ rn ≤ i + k := nI_leI (by omega) (by omega)
      have nx : ∀ v, v = zwg g rn i k → zx_At p l e (zr 1 0 0) s mm (([.ref ma, .int (nI i)] : List Value)).toArray below meth c9 (zx_Q below s D zcl [(ma, .inr (5, [.int fl, .ref tp, .int (nI tn), .ref rp, .int (nI rn), .ref dp, .int dn, .ref wp, .int wn, .int ba, .ref op, .int on, .ref bp, .ref lp, .ref ep, .int bb, .int bc, .int cw, .int cx, .int cf, .ref kp])), (rp, .inl (cB, 16384, .inl g))] 0 0 (zr 1 0 0) (fun o w => (((nI i) < 0 ∨ nI rn ≤ (nI i)) ∧ o = .returned (some (.long 0)) ∧ w = [(ma, .inr (5, [.int 1, .ref tp, .int (nI tn), .ref rp, .int (nI rn), .ref dp, .int dn, .ref wp, .int wn, .int ba, .ref op, .int on, .ref bp, .ref lp, .ref ep, .int bb, .int bc, .int cw, .int cx, .int cf, .ref kp])), (rp, .inl (cB, 16384, .inl g))]) ∨ (∃ i1 : Nat, ((nI i) = nI i1 ∧ i1 < rn) ∧ o = .returned (some (.long (zwd (zwg g rn i1) 8))) ∧ w = [(ma, .inr (5, [.int 0, .ref tp, .int (nI tn), .ref rp, .int (nI rn), .ref dp, .int dn, .ref wp, .int wn, .int ba, .ref op, .int on, .ref bp, .ref lp, .ref ep, .int bb, .int bc, .int cw, .int cx, .int cf, .ref kp])), (rp, .inl (cB, 16384, .inl g))]))) D zcl (va_A [(ma, .inr (5, [.int fl, .ref tp, .int (nI tn), .ref rp, .int (nI rn), .ref dp, .int dn, .ref wp, .int wn, .int ba, .ref op, .int on, .ref bp, .ref lp, .ref ep, .int bb, .int bc, .int cw, .int cx, .int cf, .ref kp])), (rp, .inl (cB, 16384, .inl g))] s.heap.size) 5 [(0, .ref ma), (1, .int (nI i)), (2, .long (zwd (zwg g rn i) k)), (4, .int (nI (i + k)))] [(ma, .inr (5, [.int (0 : Int32), .ref tp, .int (nI tn), .ref rp, .int (nI rn), .ref dp, .int dn, .ref wp, .int wn, .int ba, .ref op, .int on, .ref bp, .ref lp, .ref ep, .int bb, .int bc, .int cw, .int cx, .int cf, .ref kp])), (rp, .inl (cB, 16384, .inl g))] 0 0 67 [.int (nI v), .long (zwd (zwg g rn i) k * (256 : Int64))] := fun v hv => by
        subst hv
        exact sg_MO_word67 (y9 := zwd (zwg g rn i) (k + 1)) C rfl (nI_1 _) (ih (k + 1) (by omega))
      refine sg_MO_word29 C hr hlk (nI_addI i 8) (fun z => absurd z nk) (fun _ z => ?_) (fun _ z => ⟨rfl, by have := mt kk.mpr z; omega⟩) (fun _ z => zu_and _) (fun _ z => ?_)
      · exact nx 0 (by rw [zwg, if_neg (by have := kk.mp z; omega)])
      · exact nx (zu (g (i + k))) (by rw [zwg, if_pos (by have := mt kk.mpr z; omega)])
  exact loop 8 0 rfl
end
