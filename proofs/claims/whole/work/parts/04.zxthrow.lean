section ZZ
variable {p : Program} {l : Launch} {e : Env} {R : Room} {s : State} {m : MethodId} {args : Array Value} {below : List Frame} {meth : Method} {c : Code} {Q : State → Prop}
variable {cc : ByteArray} {nL : Nat} {own : String} {B : List Cond} {D : va_G} {cl : List vw_C} {tys : List (ClassId × FieldType)} {A : Nat → Prop}
variable {lv lv' : List (Nat × Value)} {ws ws' : va_W} {kc ks pc : Nat} {st : List Value}
theorem zx_isRef {C n d : String} {v : Value} {A : Nat → Prop} {s : State} {args : Array Value} (h : va_Z C n d v A s s.heap) (hv : v = .null ∨ ∃ t, v = .ref t) : (Cond.isRef (.static C n d)).before args s = true := by
  obtain ⟨cf, kf, fi, f, a, cell, h1, h2, h3, h4, h5, h6, h7, -⟩ := h
  have he : (Term.static C n d).eval args s none [] s = some v := by
    simp [Term.eval, State.fieldNamed?, h1, h2, h4, h5, h6, h7]
  rcases hv with rfl | ⟨t, rfl⟩ <;> simp [Cond.before, Cond.holds, Cond.value, he]
theorem zx_isRefq {C n d : String} {A : Nat → Prop} {s : State} {args : Array Value} (h : va_Zq C n d A s s.heap) : (Cond.isRef (.static C n d)).before args s = true := by
  rcases h with h | ⟨t, h⟩
  · exact zx_isRef h (Or.inl rfl)
  · exact zx_isRef h (Or.inr ⟨t, rfl⟩)
/-- the words of a throw that speak of the heap -/
def zx_four : List Cond := [.isRef (.static Bundle.tN "UNASSIGNED_STACK" Bundle.steD), .isRef (.static Bundle.tN "SUPPRESSED_SENTINEL" Bundle.listD), .laysStatic Bundle.tN "UNASSIGNED_STACK" Bundle.steD, .laysStatic Bundle.tN "SUPPRESSED_SENTINEL" Bundle.listD]
theorem zx_L.word {C n d : String} {s : State} {args : Array Value} (h : zx_L C n d s) : (Cond.laysStatic C n d).before args s = true := by
  obtain ⟨c, k, i, f, a, cell, h1, h2, h3, h4, h5, h6, h7, h8, h9⟩ := h
  show (Cond.laysStatic C n d).holds args s none s [] = true
  exact Cond.laysStatic_of h1 h2 h3 h4 h5 h6 h7 h8 h9
theorem zx_four_ok {s : State} {args : Array Value} (h : zx_S s) {w : Cond} (hw : w ∈ zx_four) : w.before args s = true := by
  simp only [zx_four, List.mem_cons, List.not_mem_nil, or_false] at hw
  rcases hw with rfl | rfl | rfl | rfl
  · exact zx_isRefq h.1.1
  · exact zx_isRefq h.2.1
  · exact h.1.2.word
  · exact h.2.2.word
/-- the walk seen from where it stands: as if the method had been called in this heap -/
def zx_here (T s : State) (m : MethodId) (args : Array Value) (below : List Frame) : State := (T.setVm s.vm).setFrames (.invoking m args :: below)
theorem zx_anew {T : State} {locs : List Loc} (X : Stand p l e R s m args below meth c T locs kc ks) {R' : Room} (hf : R'.frames ≤ R.frames) (hl : R'.locals ≤ R.locals) (hc : kc + R'.cells ≤ R.cells) (hs : ks + R'.slots ≤ R.slots) : Stand p l e R' (zx_here T s m args below) m args below meth c T [] 0 0 := by
  obtain ⟨g₀, hfr⟩ := X.frames_eq
  obtain ⟨th, hth, -⟩ := State.frames_cons hfr
  have hcur : T.cur < T.threads.size := (Array.getElem?_eq_some_iff.mp hth).1
  have hF : (zx_here T s m args below).frames = .invoking m args :: below := State.frames_setFrames _ hcur
  have hlim : e.platform.stackLimits (zx_here T s m args below).me = e.platform.stackLimits T.me := State.stackLimits_setFrames ..
  have hby : (zx_here T s m args below).me.stackBytes = T.me.stackBytes := State.stackBytes_setFrames ..
  have hin : (zx_here T s m args below).localsInUse = s.localsInUse := by
    rw [State.localsInUse_invoking hF (meth := meth) (c := c) X.method X.code, State.localsInUse_invoking X.frames X.method X.code]
  have hz : ((T.heap.toList.drop T.heap.size).map (·.slots.size)).sum = 0 := by
    rw [List.drop_eq_nil_of_le (Nat.le_of_eq Array.length_toList)]; rfl
  exact
    { admits := X.admits, cas := X.cas, clock := X.clock, frames := hF
      room := by
        have h := X.room
        have q1 := X.heapSize
        have q2 := X.used
        have hlen : s.frames.length = below.length + 1 := by rw [X.frames]; rfl
        have hlen2 : (zx_here T s m args below).frames.length = below.length + 1 := by rw [hF]; rfl
        have hhp : (zx_here T s m args below).heap.size = T.heap.size := rfl
        have hsu : (zx_here T s m args below).slotsUsed = T.slotsUsed := rfl
        have hbk : (zx_here T s m args below).slotsTrue = true := X.book
        simp only [State.hasRoom, Bool.and_eq_true, decide_eq_true_eq] at h ⊢
        rw [hlen] at h
        rw [hlen2, hin, hlim, hby, hhp, hsu, X.limits, X.bytes]
        obtain ⟨⟨⟨⟨h1, h2, h3, h4, h5, h6⟩, h7⟩, h8⟩, h9⟩ := h
        exact ⟨⟨⟨⟨by omega, by omega, by omega, by omega, by omega, h6⟩, by omega⟩, by omega⟩, hbk⟩
      hears := X.hears, method := X.method, code := X.code, here := X.here, tail := X.tail, warmed := X.warmed
      limits := hlim.symm, bytes := hby.symm
      same := by
        refine ⟨?_, Nat.le_refl _, Nat.le_refl _, ?_, ?_, fun a c9 h9 => ⟨c9, h9, rfl, rfl, fun _ _ => rfl⟩⟩
        · show T.setVm s.vm = { ((T.setVm s.vm).setFrames (.invoking m args :: below)).setFrames T.frames with heap := T.heap, slotsUsed := T.slotsUsed }
          rw [State.setFrames_setFrames]
          have hst : (T.setVm s.vm).setFrames T.frames = T.setVm s.vm := State.setFrames_self (s := T.setVm s.vm) hth
          rw [hst]
          rfl
        · show T.slotsUsed = T.slotsUsed + ((T.heap.toList.drop T.heap.size).map (·.slots.size)).sum
          rw [hz]; rfl
        · show ((T.heap.toList.drop T.heap.size).map (·.slots.size)).sum ≤ 0
          rw [hz]; exact Nat.le_refl _ }
/-- what a run of sameButNew with no written place keeps -/
theorem zx_keptAll {s' U : State} {k n : Nat} (h : s'.sameButNew ({ U with vm := s'.vm } : State) [] k n) : s'.heap.size ≤ U.heap.size ∧ ∀ (q : Nat) (cell : Cell), s'.heap[q]? = some cell → U.heap[q]? = some cell := by
  refine ⟨h.2.1, fun q cell hq => ?_⟩
  exact State.sameButNew.old_cell h hq

set_option maxHeartbeats 1000000 in
/-- 'throw new E("text")' -/
theorem zx_throwS {w0 : va_W} {kr nr : Nat} {post : Outcome → va_W → Prop} (C : zx_C p s m args c cc nL own B D cl tys (va_A w0 s.heap.size)) (hl9 : l.stackTraces = false) {cls : String} {text : String} {is : Nat} {names : List String} {ik ic ci : Nat} {T0 : u_T} (hcls : Bundle.fit cls = true) (hnames : ∀ n ∈ names, Bundle.fit n = true) (hk : Cond.classLink own ik cls ∈ B) (hini : Cond.initialized cls ∈ B) (hstr : Cond.stringRef own is text ∈ B) (hat : ∀ w ∈ Bundle.ownAtoms own ic cls names, w ∈ B ∨ w ∈ zx_four) (hci : cl[ci]? = some (cls, T0, 0)) (hlk : meth.locks = false) (hout : ∀ h ∈ c.exceptionTable.toList, covers h (pc + 9) = false)
    (d0 : decode cc pc = .ok (.new ik, 3)) (d3 : decode cc (pc + 3) = .ok (.dup, 1)) (d4 : decode cc (pc + 4) = .ok (.ldc is, 2)) (d6 : decode cc (pc + 6) = .ok (.invokespecial ic, 3)) (d9 : decode cc (pc + 9) = .ok (.athrow, 1)) (hf : names.length + 3 < R.frames) (hlo : (st.map fun v => v.category).sum + (13 * (names.length + 1) + 43) ≤ R.locals) (h1 : kc + 1 ≤ R.cells) (h2 : ks + 6 ≤ R.slots)
    (hq : ∀ x : Nat, post (.threw x) (ws ++ [(x, .inr (ci, []))])) : zx_At p l e R s m args below meth c (zx_Q below s D cl w0 kr nr R post) D cl (va_A w0 s.heap.size) nL lv ws kc ks pc st := by
  intro H locs ls hl hP hD hS T hT X
  subst hT
  have htr : e.platform.stackTraces = false := (show e.platform.stackTraces = l.stackTraces by rw [X.admits.platform]).trans hl9
  have Y := zx_anew X (R' := { frames := R.frames, locals := R.locals, cells := 1, slots := 6 }) (Nat.le_refl _) (Nat.le_refl _) h1 h2
  have hW0 : s.WarmedH (zx_here T s m args below).vm := State.WarmedH.refl s
  have hG : zx_G B D cl tys (zx_here T s m args below) := zx_G.to C.hB (s := s) hW0 (fun a cell g1 g2 => by
    show T.heap[a]? = some cell
    rw [hS.2.1 a (Array.getElem?_eq_some_iff.mp g1).1 (C.hN a cell g1 g2)]
    exact g1) C.g
  have hat' : ∀ w ∈ Bundle.ownAtoms own ic cls names, w.before args (zx_here T s m args below) = true := fun w hw => by
    rcases hat w hw with g | g
    · exact hG.1 w g args
    · exact zx_four_ok hG.2.2 g
  have hown' : (zx_here T s m args below).vm.findClass own = some m.cls := C.ho
  have hins : (Cond.instantiable cls 6).before args (zx_here T s m args below) = true := hat' _ (by simp [Bundle.ownAtoms])
  obtain ⟨vm₁, cX, kX, hfX, hkX, -, -, X₁, st1⟩ := Y.newCold C.hx (own := own) (C := cls) (index := ik) (n := 6) hown' (hG.1 _ hk args) hins (hG.1 _ hini args) (g := F0 m pc ls st) rfl (by rw [C.hb]; exact d0) (Nat.le_refl _) (Nat.le_refl _)
  generalize hT1 : (T.setVm vm₁).pushCell { cls := cX, slots := kX.instanceTypes.map defaultValue, vm := .none } = T1 at X₁ st1
  have hcellA : T1.heap[T.heap.size]? = some (freshCell cX kX) := by rw [← hT1]; exact State.heap_pushCell_size _ _
  have hcat : (Value.ref T.heap.size).category = 1 := rfl
  have d3' : decode c.code (pc + 3) = .ok (.dup, 1) := by rw [C.hb]; exact d3
  have d4' : decode c.code (pc + 4) = .ok (.ldc is, 2) := by rw [C.hb]; exact d4
  obtain ⟨_, _, _, sa, -, -, -, -, -, hev⟩ := Cond.stringRef_spec hown' (hG.1 _ hstr args)
  obtain ⟨U, hsteps, hrun, hend, hW, hsame, ce, hce, hO⟩ := X₁.ctorThrowS C.hx htr (own := own) (cls := cls) (names := names) (ic := ic) hown' hcls hnames hat' (fun x hx => nomatch hx) hfX hkX hcellA (Nat.le_refl _) (msg := .ref sa) rfl (g := { method := m, pc := pc + 6, locals := ls, stack := .ref sa :: .ref T.heap.size :: .ref T.heap.size :: st, locked := none }) rfl (by rw [C.hml]; exact hl.1) rfl rfl (rest := st) rfl (by rw [C.hb]; exact d6) (by rw [C.hb]; exact d9) hout hf (by simp only [List.map_cons, List.sum_cons, hcat]; omega) hlk
  obtain ⟨f1, f2⟩ := zx_keptAll hsame
  have hWs : s.WarmedH U.vm := hW
  have hall : s.sameButNew ({ U with vm := s.vm } : State) locs R.cells R.slots := by
    obtain ⟨e1, e2⟩ := hsame
    have g2 : (T.setVm s.vm).sameButNew ({ U with vm := s.vm } : State) [] (0 + 1) (0 + 6) := ⟨by
      have e3 : ({ U with vm := s.vm } : State) = { (zx_here T s m args below).setFrames U.frames with heap := U.heap, slotsUsed := U.slotsUsed } := e1
      rw [zx_here, State.setFrames_setFrames] at e3
      exact e3, e2⟩
    have g3 := X.same.trans g2
    rw [List.append_nil] at g3
    exact g3.mono (by omega) (by omega)
  have hceC : ce.cls = D.1 ci := by
    have g1 : s.vm.findClass cls = some ce.cls := hO.cls
    have g2 : s.vm.findClass cls = some (D.1 ci) := (C.k.1 ci _ hci).2.1
    exact Option.some.inj (g1.symm.trans g2)
  have hP2 : va_P D cl (ws ++ [(T.heap.size, .inr (ci, []))]) U.heap := va_P.app (fun k q hk => by
      have g1 := hP k q hk
      refine g1.kept ?_
      have g2 := g1.lt
      have g3 : T.heap[q.1]? = some T.heap[q.1] := Array.getElem?_eq_getElem g2
      rw [g3]
      exact f2 q.1 _ g3) (fun k q hk => by
      cases k with
      | zero =>
        cases hk
        exact ⟨_, hci, ce, hce, hceC, hO.vm, fun j hj => absurd hj (Nat.not_lt_zero _)⟩
      | succ k => cases hk)
  have hD2 : va_D (va_A w0 s.heap.size) (ws ++ [(T.heap.size, .inr (ci, []))]) := hD.push hP rfl (Or.inr hS.1)
  refine ⟨U, ?_, .threw T.heap.size, hrun, hend, hWs, ⟨locs, hall, hS.2.2⟩, ⟨_, hq T.heap.size, hP2, hD2⟩, ⟨Nat.le_trans hS.1 f1, fun q g1 g2 => ?_⟩⟩
  · refine st1 _ ?_
    show Steps p.tables e below (T1.setTop { method := m, pc := pc + 3, locals := ls, stack := .ref T.heap.size :: st, locked := none }) _
    jvm_step X₁.here [X₁.here.top, C.hx, d3', Value.category]
    exact X₁.ldcString C.hx (own := own) (text := text) (index := is) (a := sa) hown' (hG.1 _ hstr args) hev (g := { method := m, pc := pc + 4, locals := ls, stack := .ref T.heap.size :: .ref T.heap.size :: st, locked := none }) rfl d4' _ hsteps
  · rw [← hS.2.1 q g1 g2]
    have g3 := Nat.lt_of_lt_of_le g1 hS.1
    rw [Array.getElem?_eq_getElem g3]
    exact f2 q _ (Array.getElem?_eq_getElem g3)
set_option maxHeartbeats 1000000 in
/-- 'throw new E()' -/
theorem zx_throw0 {w0 : va_W} {kr nr : Nat} {post : Outcome → va_W → Prop} (C : zx_C p s m args c cc nL own B D cl tys (va_A w0 s.heap.size)) (hl9 : l.stackTraces = false) {cls : String} {names : List String} {ik ic ci : Nat} {T0 : u_T} (hcls : Bundle.fit cls = true) (hnames : ∀ n ∈ names, Bundle.fit n = true) (hk : Cond.classLink own ik cls ∈ B) (hini : Cond.initialized cls ∈ B) (hat : ∀ w ∈ Bundle.ownAtoms0 own ic cls names, w ∈ B ∨ w ∈ zx_four) (hci : cl[ci]? = some (cls, T0, 0)) (hlk : meth.locks = false) (hout : ∀ h ∈ c.exceptionTable.toList, covers h (pc + 7) = false)
    (d0 : decode cc pc = .ok (.new ik, 3)) (d3 : decode cc (pc + 3) = .ok (.dup, 1)) (d6 : decode cc (pc + 4) = .ok (.invokespecial ic, 3)) (d9 : decode cc (pc + 7) = .ok (.athrow, 1)) (hf : names.length + 3 < R.frames) (hlo : (st.map fun v => v.category).sum + (13 * (names.length + 1) + 42) ≤ R.locals) (h1 : kc + 1 ≤ R.cells) (h2 : ks + 6 ≤ R.slots)
    (hq : ∀ x : Nat, post (.threw x) (ws ++ [(x, .inr (ci, []))])) : zx_At p l e R s m args below meth c (zx_Q below s D cl w0 kr nr R post) D cl (va_A w0 s.heap.size) nL lv ws kc ks pc st := by
  intro H locs ls hl hP hD hS T hT X
  subst hT
  have htr : e.platform.stackTraces = false := (show e.platform.stackTraces = l.stackTraces by rw [X.admits.platform]).trans hl9
  have Y := zx_anew X (R' := { frames := R.frames, locals := R.locals, cells := 1, slots := 6 }) (Nat.le_refl _) (Nat.le_refl _) h1 h2
  have hW0 : s.WarmedH (zx_here T s m args below).vm := State.WarmedH.refl s
  have hG : zx_G B D cl tys (zx_here T s m args below) := zx_G.to C.hB (s := s) hW0 (fun a cell g1 g2 => by
    show T.heap[a]? = some cell
    rw [hS.2.1 a (Array.getElem?_eq_some_iff.mp g1).1 (C.hN a cell g1 g2)]
    exact g1) C.g
  have hat' : ∀ w ∈ Bundle.ownAtoms0 own ic cls names, w.before args (zx_here T s m args below) = true := fun w hw => by
    rcases hat w hw with g | g
    · exact hG.1 w g args
    · exact zx_four_ok hG.2.2 g
  have hown' : (zx_here T s m args below).vm.findClass own = some m.cls := C.ho
  have hins : (Cond.instantiable cls 6).before args (zx_here T s m args below) = true := hat' _ (by simp [Bundle.ownAtoms0])
  obtain ⟨vm₁, cX, kX, hfX, hkX, -, -, X₁, st1⟩ := Y.newCold C.hx (own := own) (C := cls) (index := ik) (n := 6) hown' (hG.1 _ hk args) hins (hG.1 _ hini args) (g := F0 m pc ls st) rfl (by rw [C.hb]; exact d0) (Nat.le_refl _) (Nat.le_refl _)
  generalize hT1 : (T.setVm vm₁).pushCell { cls := cX, slots := kX.instanceTypes.map defaultValue, vm := .none } = T1 at X₁ st1
  have hcellA : T1.heap[T.heap.size]? = some (freshCell cX kX) := by rw [← hT1]; exact State.heap_pushCell_size _ _
  have hcat : (Value.ref T.heap.size).category = 1 := rfl
  have d3' : decode c.code (pc + 3) = .ok (.dup, 1) := by rw [C.hb]; exact d3
  obtain ⟨U, hsteps, hrun, hend, hW, hsame, ce, hce, hO⟩ := X₁.ctorThrow0 C.hx htr (own := own) (cls := cls) (names := names) (ic := ic) hown' hcls hnames hat' (fun x hx => nomatch hx) hfX hkX hcellA (Nat.le_refl _) (g := { method := m, pc := pc + 4, locals := ls, stack := .ref T.heap.size :: .ref T.heap.size :: st, locked := none }) rfl (by rw [C.hml]; exact hl.1) rfl rfl (rest := st) rfl (by rw [C.hb]; exact d6) (by rw [C.hb]; exact d9) hout hf (by simp only [List.map_cons, List.sum_cons, hcat]; omega) hlk
  obtain ⟨f1, f2⟩ := zx_keptAll hsame
  have hWs : s.WarmedH U.vm := hW
  have hall : s.sameButNew ({ U with vm := s.vm } : State) locs R.cells R.slots := by
    obtain ⟨e1, e2⟩ := hsame
    have g2 : (T.setVm s.vm).sameButNew ({ U with vm := s.vm } : State) [] (0 + 1) (0 + 6) := ⟨by
      have e3 : ({ U with vm := s.vm } : State) = { (zx_here T s m args below).setFrames U.frames with heap := U.heap, slotsUsed := U.slotsUsed } := e1
      rw [zx_here, State.setFrames_setFrames] at e3
      exact e3, e2⟩
    have g3 := X.same.trans g2
    rw [List.append_nil] at g3
    exact g3.mono (by omega) (by omega)
  have hceC : ce.cls = D.1 ci := by
    have g1 : s.vm.findClass cls = some ce.cls := hO.cls
    have g2 : s.vm.findClass cls = some (D.1 ci) := (C.k.1 ci _ hci).2.1
    exact Option.some.inj (g1.symm.trans g2)
  have hP2 : va_P D cl (ws ++ [(T.heap.size, .inr (ci, []))]) U.heap := va_P.app (fun k q hk => by
      have g1 := hP k q hk
      refine g1.kept ?_
      have g2 := g1.lt
      have g3 : T.heap[q.1]? = some T.heap[q.1] := Array.getElem?_eq_getElem g2
      rw [g3]
      exact f2 q.1 _ g3) (fun k q hk => by
      cases k with
      | zero =>
        cases hk
        exact ⟨_, hci, ce, hce, hceC, hO.vm, fun j hj => absurd hj (Nat.not_lt_zero _)⟩
      | succ k => cases hk)
  have hD2 : va_D (va_A w0 s.heap.size) (ws ++ [(T.heap.size, .inr (ci, []))]) := hD.push hP rfl (Or.inr hS.1)
  refine ⟨U, ?_, .threw T.heap.size, hrun, hend, hWs, ⟨locs, hall, hS.2.2⟩, ⟨_, hq T.heap.size, hP2, hD2⟩, ⟨Nat.le_trans hS.1 f1, fun q g1 g2 => ?_⟩⟩
  · refine st1 _ ?_
    show Steps p.tables e below (T1.setTop { method := m, pc := pc + 3, locals := ls, stack := .ref T.heap.size :: st, locked := none }) _
    jvm_step X₁.here [X₁.here.top, C.hx, d3', Value.category]
    exact hsteps
  · rw [← hS.2.1 q g1 g2]
    have g3 := Nat.lt_of_lt_of_le g1 hS.1
    rw [Array.getElem?_eq_getElem g3]
    exact f2 q _ (Array.getElem?_eq_getElem g3)
end ZZ
