section ZC
variable {p : Program} {l : Launch} {e : Env} {R : Room} {s : State} {m : MethodId} {args : Array Value} {below : List Frame} {meth : Method} {c : Code} {Q : State → Prop}
variable {cc : ByteArray} {nL : Nat} {own : String} {B : List Cond} {D : va_G} {cl : List vw_C} {tys : List (ClassId × FieldType)} {A : Nat → Prop}
variable {lv lv' : List (Nat × Value)} {ws ws' : va_W} {kc ks pc : Nat} {st : List Value}
/-- the row of a table that its picture shows -/
theorem zx_split {l0 : List ExceptionTableEntry} {hp hq : List (Nat × Nat × Nat × Nat)} {h0 : Nat × Nat × Nat × Nat} (h : l0.map (fun h : ExceptionTableEntry => (h.startPc, h.endPc, h.handlerPc, h.catchType)) = hp ++ h0 :: hq) : ∃ pre y suf, l0 = pre ++ y :: suf ∧ pre.map (fun h : ExceptionTableEntry => (h.startPc, h.endPc, h.handlerPc, h.catchType)) = hp ∧ (fun h : ExceptionTableEntry => (h.startPc, h.endPc, h.handlerPc, h.catchType)) y = h0 := by
  obtain ⟨l1, l2, h1, h2, h3⟩ := List.map_eq_append_iff.mp h
  obtain ⟨y, l3, h4, h5, -⟩ := List.map_eq_cons_iff.mp h3
  exact ⟨l1, y, l3, by rw [h1, h4], h2, h5⟩
set_option maxHeartbeats 1000000 in
/-- an exception is caught: the rows ahead name classes that it isn't of -/
theorem zx_catch (C : zx_C p s m args c cc nL own B D cl tys A) {x ci q0 N0 : Nat} {E name : String} {T0 : u_T} {fs : List Value} (hp hq : List (Nat × Nat × Nat × Nat)) (h0 : Nat × Nat × Nat × Nat) (htab : c.exceptionTable.toList.map (fun h : ExceptionTableEntry => (h.startPc, h.endPc, h.handlerPc, h.catchType)) = hp ++ h0 :: hq) (hx : h0.1 ≤ pc ∧ pc < h0.2.1) (hne : h0.2.2.2 ≠ 0) (hlk : Cond.classLink own h0.2.2.2 name ∈ B) (hca : Cond.castable E name ∈ B) (hpass : ∀ h ∈ hp, h.2.2.2 ≠ 0 ∧ ∃ nm : String, Cond.classLink own h.2.2.2 nm ∈ B ∧ Cond.not (.castable E nm) ∈ B) (he : ws[q0]? = some (x, .inr (ci, fs))) (hci : cl[ci]? = some (E, T0, N0)) (h : zx_At p l e R s m args below meth c Q D cl A nL lv ws kc ks h0.2.2.1 [.ref x]) : zx_Th p l e R s m args below meth c Q D cl A nL lv ws kc ks pc st x := by
  intro H locs ls hl hP hD hS T hT X
  obtain ⟨r, hr1, cell, g1, g2, g3, -⟩ := hP q0 _ he
  obtain ⟨-, hfc, kC, hkC, -⟩ := C.k.1 ci _ hci
  have hpl : e.platform.magicAccessors = ({} : Platform).magicAccessors := by rw [X.admits.platform]
  obtain ⟨c3, c4, hc3, hc4, hasg⟩ := Cond.castable_spec (C.w hca)
  cases Option.some.inj (hc3.symm.trans hfc)
  obtain ⟨c5, hc5, hcl5⟩ := Cond.classLink_spec C.ho (C.w hlk) e.platform hpl
  cases Option.some.inj (hc4.symm.trans hc5)
  obtain ⟨pre, y, suf, hsplit, hpre, hy⟩ := zx_split htab
  subst hy
  obtain ⟨vm', X', st9⟩ := X.thenCaughtThrough x (g := F0 m pc ls st) rfl (Steps.refl _) (by rw [hT]; exact g1) (by rw [g3]; rfl) ⟨kC, by rw [g2]; exact hkC⟩ pre y suf hsplit
    (fun z hz => by
      obtain ⟨hz0, nm, hl1, hn1⟩ := hpass _ (by rw [← hpre]; exact List.mem_map.mpr ⟨z, hz, rfl⟩)
      obtain ⟨c6, hc6, hcl6⟩ := Cond.classLink_spec C.ho (C.w hl1) e.platform hpl
      obtain ⟨a8, b8, w1, w2, w3⟩ := va_Nc.of (C.w hn1)
      cases Option.some.inj (w1.symm.trans hfc)
      cases Option.some.inj (w2.symm.trans hc6)
      exact Or.inr ⟨hz0, _, hcl6, by rw [g2]; exact w3⟩)
    (by simp only [covers, Bool.and_eq_true, decide_eq_true_eq]; exact hx) (Or.inr ⟨hne, c4, hcl5, by rw [g2]; exact hasg⟩)
  obtain ⟨t, a1, b1⟩ := h H locs ls hl hP hD hS (T.setVm vm') hT X'
  exact ⟨t, st9.trans a1, b1⟩
end ZC
