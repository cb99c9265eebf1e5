section ZY
variable {p : Program} {l : Launch} {e : Env} {R : Room} {s : State} {m : MethodId} {args : Array Value} {below : List Frame} {meth : Method} {c : Code} {Q : State → Prop}
variable {cc : ByteArray} {nL : Nat} {own : String} {B : List Cond} {D : va_G} {cl : List vw_C} {tys : List (ClassId × FieldType)} {A : Nat → Prop}
variable {lv lv' : List (Nat × Value)} {ws ws' : va_W} {kc ks pc : Nat} {st : List Value}
theorem zx_callS (C : zx_C p s m args c cc nL own B D cl tys A) {y : MethodName} {bytes : ByteArray} {maxL ix : Nat} {ret : Option FieldType} {hs : List (Nat × Nat × Nat × Nat)} {kr nr : Nat} {R' : Room} {av : List Value} {wc wr : va_W} {post : Outcome → va_W → Prop} {st0 : List Value} (hw : ∃ mk, zx_cw s y mk bytes maxL ret hs) (hpl : plainName y.cls = true) (hy : y.cls ≠ "java/lang/invoke/MethodHandle" ∧ y.cls ≠ "java/lang/invoke/VarHandle") (hstt : Cond.static y ∈ B) (hini : Cond.initialized y.cls ∈ B) (hlk : Cond.methodLink own ix y ∈ B) (hlen : (parseMethodDescriptor y.desc).map (fun d => d.parameters.length) = some av.length) (hM : zx_K l B D cl tys y bytes maxL ret hs kr nr R' av wc post) (hst : st0 = av.reverse ++ st) (isC isR : List Nat) (hC : isC.map (fun i => ws[i]?) = wc.map some) (hR : isR.map (fun i => ws[i]?) = wr.map some) (hnC : va_nd isC = true) (hnR : va_nd isR = true) (hdis : ∀ i ∈ isR, i ∉ isC) (hfr : R'.frames + 1 ≤ R.frames) (hlo : (st.map fun v => v.category).sum + (maxL + 11) + R'.locals ≤ R.locals) (hce : kc + R'.cells ≤ R.cells) (hsl : ks + R'.slots ≤ R.slots) (hd : decode cc pc = .ok (.invokestatic ix, 3)) (kk : ∀ (o : Outcome) (w1 : va_W), post o w1 → zx_Af p l e R s m args below meth c Q D cl A nL lv (wr ++ w1) (kc + zx_ck o kr R'.cells) (ks + zx_ck o nr R'.slots) pc st o) : zx_At p l e R s m args below meth c Q D cl A nL lv ws kc ks pc st0 := by
  obtain ⟨mk, hw⟩ := hw
  refine zx_go C hw hpl hM isC isR hC hR hnC hnR hdis hfr hlo hce hsl hd (fun T locs ls hP X => ?_) kk
  obtain ⟨methM, cM, hn, hm, -, -, -, -, -, -, hsig⟩ := hw
  obtain ⟨kP, hkP, -⟩ := className_of_methodNamed hn
  rw [hsig] at hlen
  exact X.invokestatic C.hx C.ho (C.w hlk) hn hm (Cond.static_spec hn hm (C.w hstt)) hkP (Cond.initialized_spec (findClass_of_methodNamed hn) hkP (C.w hini)) hy (g := F0 m pc ls st0) rfl (argsL := av) (rest := st) (Option.some.inj hlen).symm hst (by rw [C.hb]; exact hd)
theorem zx_callSN (C : zx_C p s m args c cc nL own B D cl tys A) {y : MethodName} {bytes : ByteArray} {maxL ix : Nat} {ret : Option FieldType} {hs : List (Nat × Nat × Nat × Nat)} {kr nr : Nat} {R' : Room} {av : List Value} {wc wr : va_W} {post : Outcome → va_W → Prop} {st0 : List Value} {host : String} (hw : ∃ mk, zx_cw s y mk bytes maxL ret hs) (hpl : plainName y.cls = true) (hy : y.cls ≠ "java/lang/invoke/MethodHandle" ∧ y.cls ≠ "java/lang/invoke/VarHandle") (hstt : Cond.static y ∈ B) (hini : Cond.initialized y.cls ∈ B) (hlk : Cond.methodLinkNest own ix y host ∈ B) (hlen : (parseMethodDescriptor y.desc).map (fun d => d.parameters.length) = some av.length) (hM : zx_K l B D cl tys y bytes maxL ret hs kr nr R' av wc post) (hst : st0 = av.reverse ++ st) (isC isR : List Nat) (hC : isC.map (fun i => ws[i]?) = wc.map some) (hR : isR.map (fun i => ws[i]?) = wr.map some) (hnC : va_nd isC = true) (hnR : va_nd isR = true) (hdis : ∀ i ∈ isR, i ∉ isC) (hfr : R'.frames + 1 ≤ R.frames) (hlo : (st.map fun v => v.category).sum + (maxL + 11) + R'.locals ≤ R.locals) (hce : kc + R'.cells ≤ R.cells) (hsl : ks + R'.slots ≤ R.slots) (hd : decode cc pc = .ok (.invokestatic ix, 3)) (kk : ∀ (o : Outcome) (w1 : va_W), post o w1 → zx_Af p l e R s m args below meth c Q D cl A nL lv (wr ++ w1) (kc + zx_ck o kr R'.cells) (ks + zx_ck o nr R'.slots) pc st o) : zx_At p l e R s m args below meth c Q D cl A nL lv ws kc ks pc st0 := by
  obtain ⟨mk, hw⟩ := hw
  refine zx_go C hw hpl hM isC isR hC hR hnC hnR hdis hfr hlo hce hsl hd (fun T locs ls hP X => ?_) kk
  obtain ⟨methM, cM, hn, hm, -, -, -, -, -, -, hsig⟩ := hw
  obtain ⟨kP, hkP, -⟩ := className_of_methodNamed hn
  rw [hsig] at hlen
  exact X.invokestaticNest C.hx C.ho (C.w hlk) hn hm (Cond.static_spec hn hm (C.w hstt)) hkP (Cond.initialized_spec (findClass_of_methodNamed hn) hkP (C.w hini)) hy (g := F0 m pc ls st0) rfl (argsL := av) (rest := st) (Option.some.inj hlen).symm hst (by rw [C.hb]; exact hd)
theorem zx_callV (C : zx_C p s m args c cc nL own B D cl tys A) {y : MethodName} {bytes : ByteArray} {maxL ix : Nat} {ret : Option FieldType} {hs : List (Nat × Nat × Nat × Nat)} {kr nr : Nat} {R' : Room} {av : List Value} {wc wr : va_W} {post : Outcome → va_W → Prop} {st0 : List Value} {b ci q0 : Nat} {fs : List Value} {q9 : vw_C} {As : List Value} (hw : ∃ mk, zx_cw s y mk bytes maxL ret hs) (hpl : plainName y.cls = true) (hy : y.cls ≠ "java/lang/invoke/MethodHandle" ∧ y.cls ≠ "java/lang/invoke/VarHandle") (hin : Cond.instanceMethod y ∈ B) (hse : Cond.selects y.cls y y ∈ B) (hlk : Cond.methodLink own ix y ∈ B) (hlen : (parseMethodDescriptor y.desc).map (fun d => d.parameters.length) = some As.length) (hav : av = .ref b :: As) (he : ws[q0]? = some (b, .inr (ci, fs))) (hcl : cl[ci]? = some q9) (hq9 : q9.1 = y.cls) (hM : zx_K l B D cl tys y bytes maxL ret hs kr nr R' av wc post) (hst : st0 = As.reverse ++ .ref b :: st) (isC isR : List Nat) (hC : isC.map (fun i => ws[i]?) = wc.map some) (hR : isR.map (fun i => ws[i]?) = wr.map some) (hnC : va_nd isC = true) (hnR : va_nd isR = true) (hdis : ∀ i ∈ isR, i ∉ isC) (hfr : R'.frames + 1 ≤ R.frames) (hlo : (st.map fun v => v.category).sum + (maxL + 11) + R'.locals ≤ R.locals) (hce : kc + R'.cells ≤ R.cells) (hsl : ks + R'.slots ≤ R.slots) (hd : decode cc pc = .ok (.invokevirtual ix, 3)) (kk : ∀ (o : Outcome) (w1 : va_W), post o w1 → zx_Af p l e R s m args below meth c Q D cl A nL lv (wr ++ w1) (kc + zx_ck o kr R'.cells) (ks + zx_ck o nr R'.slots) pc st o) : zx_At p l e R s m args below meth c Q D cl A nL lv ws kc ks pc st0 := by
  subst hav
  obtain ⟨mk, hw⟩ := hw
  refine zx_go C hw hpl hM isC isR hC hR hnC hnR hdis hfr hlo hce hsl hd (fun T locs ls hP X => ?_) kk
  obtain ⟨methM, cM, hn, hm, -, -, -, -, -, -, hsig⟩ := hw
  obtain ⟨mk2, methM2, hn2, hm2, hstM, habM⟩ := Cond.instanceMethod_spec (C.w hin)
  cases hn.symm.trans hn2
  cases hm.symm.trans hm2
  obtain ⟨cellB, hcB, hoB, hclB⟩ := va_recv C.k hP hcl he
  rw [hq9] at hclB
  obtain ⟨c2, r2, m2, q1, q2, q3, q4, kP, hkP, hkPi⟩ := Cond.selects_spec (C.w hse)
  cases hclB.symm.trans q1
  cases (State.methodFound?_of_named hn hy).symm.trans q2
  cases hn.symm.trans q3
  have hselP : selectMethod e.platform s.vm cellB.cls mk = .method mk := by rw [Launch.admits_selectMethod X.admits]; exact q4
  rw [hsig] at hlen
  exact X.invokevirtual C.hx C.ho (C.w hlk) hn hm hstM hkP hkPi hy (a := b) (cell := cellB) hcB (fun z h => by rw [h] at hoB; cases hoB) hselP hm habM hkP hkPi (g := F0 m pc ls st0) rfl (argsL := As) (rest := st) (Option.some.inj hlen).symm hst (by rw [C.hb]; exact hd)
theorem zx_callVN (C : zx_C p s m args c cc nL own B D cl tys A) {y : MethodName} {bytes : ByteArray} {maxL ix : Nat} {ret : Option FieldType} {hs : List (Nat × Nat × Nat × Nat)} {kr nr : Nat} {R' : Room} {av : List Value} {wc wr : va_W} {post : Outcome → va_W → Prop} {st0 : List Value} {host : String} {b ci q0 : Nat} {fs : List Value} {q9 : vw_C} {As : List Value} (hw : ∃ mk, zx_cw s y mk bytes maxL ret hs) (hpl : plainName y.cls = true) (hy : y.cls ≠ "java/lang/invoke/MethodHandle" ∧ y.cls ≠ "java/lang/invoke/VarHandle") (hin : Cond.instanceMethod y ∈ B) (hse : Cond.selects y.cls y y ∈ B) (hlk : Cond.methodLinkNest own ix y host ∈ B) (hlen : (parseMethodDescriptor y.desc).map (fun d => d.parameters.length) = some As.length) (hav : av = .ref b :: As) (he : ws[q0]? = some (b, .inr (ci, fs))) (hcl : cl[ci]? = some q9) (hq9 : q9.1 = y.cls) (hM : zx_K l B D cl tys y bytes maxL ret hs kr nr R' av wc post) (hst : st0 = As.reverse ++ .ref b :: st) (isC isR : List Nat) (hC : isC.map (fun i => ws[i]?) = wc.map some) (hR : isR.map (fun i => ws[i]?) = wr.map some) (hnC : va_nd isC = true) (hnR : va_nd isR = true) (hdis : ∀ i ∈ isR, i ∉ isC) (hfr : R'.frames + 1 ≤ R.frames) (hlo : (st.map fun v => v.category).sum + (maxL + 11) + R'.locals ≤ R.locals) (hce : kc + R'.cells ≤ R.cells) (hsl : ks + R'.slots ≤ R.slots) (hd : decode cc pc = .ok (.invokevirtual ix, 3)) (kk : ∀ (o : Outcome) (w1 : va_W), post o w1 → zx_Af p l e R s m args below meth c Q D cl A nL lv (wr ++ w1) (kc + zx_ck o kr R'.cells) (ks + zx_ck o nr R'.slots) pc st o) : zx_At p l e R s m args below meth c Q D cl A nL lv ws kc ks pc st0 := by
  subst hav
  obtain ⟨mk, hw⟩ := hw
  refine zx_go C hw hpl hM isC isR hC hR hnC hnR hdis hfr hlo hce hsl hd (fun T locs ls hP X => ?_) kk
  obtain ⟨methM, cM, hn, hm, -, -, -, -, -, -, hsig⟩ := hw
  obtain ⟨mk2, methM2, hn2, hm2, hstM, habM⟩ := Cond.instanceMethod_spec (C.w hin)
  cases hn.symm.trans hn2
  cases hm.symm.trans hm2
  obtain ⟨cellB, hcB, hoB, hclB⟩ := va_recv C.k hP hcl he
  rw [hq9] at hclB
  obtain ⟨c2, r2, m2, q1, q2, q3, q4, kP, hkP, hkPi⟩ := Cond.selects_spec (C.w hse)
  cases hclB.symm.trans q1
  cases (State.methodFound?_of_named hn hy).symm.trans q2
  cases hn.symm.trans q3
  have hselP : selectMethod e.platform s.vm cellB.cls mk = .method mk := by rw [Launch.admits_selectMethod X.admits]; exact q4
  rw [hsig] at hlen
  exact X.invokevirtualNest C.hx C.ho (C.w hlk) hn hm hstM hkP hkPi hy (a := b) (cell := cellB) hcB (fun z h => by rw [h] at hoB; cases hoB) hselP hm habM hkP hkPi (g := F0 m pc ls st0) rfl (argsL := As) (rest := st) (Option.some.inj hlen).symm hst (by rw [C.hb]; exact hd)
theorem zx_callI (C : zx_C p s m args c cc nL own B D cl tys A) {y : MethodName} {bytes : ByteArray} {maxL ix : Nat} {ret : Option FieldType} {hs : List (Nat × Nat × Nat × Nat)} {kr nr : Nat} {R' : Room} {av : List Value} {wc wr : va_W} {post : Outcome → va_W → Prop} {st0 : List Value} {b : Nat} {As : List Value} (hpl : plainName y.cls = true) (hy : y.cls ≠ "java/lang/invoke/MethodHandle" ∧ y.cls ≠ "java/lang/invoke/VarHandle") (hco : Cond.code y bytes maxL none ∈ B) (hy1 : y.name = "<init>") (hin : Cond.instanceMethod y ∈ B) (hlk : Cond.methodLink own ix y ∈ B) (hlen : (parseMethodDescriptor y.desc).map (fun d => d.parameters.length) = some As.length) (hav : av = .ref b :: As) (hM : zx_K l B D cl tys y bytes maxL none [] kr nr R' av wc post) (hst : st0 = As.reverse ++ .ref b :: st) (isC isR : List Nat) (hC : isC.map (fun i => ws[i]?) = wc.map some) (hR : isR.map (fun i => ws[i]?) = wr.map some) (hnC : va_nd isC = true) (hnR : va_nd isR = true) (hdis : ∀ i ∈ isR, i ∉ isC) (hfr : R'.frames + 1 ≤ R.frames) (hlo : (st.map fun v => v.category).sum + (maxL + 11) + R'.locals ≤ R.locals) (hce : kc + R'.cells ≤ R.cells) (hsl : ks + R'.slots ≤ R.slots) (hd : decode cc pc = .ok (.invokespecial ix, 3)) (kk : ∀ (o : Outcome) (w1 : va_W), post o w1 → zx_Af p l e R s m args below meth c Q D cl A nL lv (wr ++ w1) (kc + zx_ck o kr R'.cells) (ks + zx_ck o nr R'.slots) pc st o) : zx_At p l e R s m args below meth c Q D cl A nL lv ws kc ks pc st0 := by
  subst hav
  obtain ⟨mk, hw⟩ := zx_cw.of (C.w hco)
  refine zx_go C hw hpl hM isC isR hC hR hnC hnR hdis hfr hlo hce hsl hd (fun T locs ls hP X => ?_) kk
  obtain ⟨methM, cM, hn, hm, -, -, -, -, -, -, hsig⟩ := hw
  have hmag : e.platform.magicAccessors = ({} : Platform).magicAccessors := by rw [X.admits.platform]
  obtain ⟨mk2, methM2, cM2, kP, vm₁, hn2, hm2, -, -, -, -, hkP, -, hW₁, hstep₁⟩ := Steps.initColdArgs (e := e) X.here C.hx X.warmed hmag C.ho hy1 hy (C.w hlk) (C.w hin) (C.w hco) (f := F0 m pc ls st0) rfl (argsL := As) (rest := st) (a := b) (fun sig h => by rw [h] at hlen; exact (Option.some.inj hlen).symm) hst (by rw [C.hb]; exact hd)
  cases hn.symm.trans hn2
  exact ⟨vm₁, X.noted hW₁, hstep₁⟩
theorem zx_callIN (C : zx_C p s m args c cc nL own B D cl tys A) {y : MethodName} {bytes : ByteArray} {maxL ix : Nat} {ret : Option FieldType} {hs : List (Nat × Nat × Nat × Nat)} {kr nr : Nat} {R' : Room} {av : List Value} {wc wr : va_W} {post : Outcome → va_W → Prop} {st0 : List Value} {host : String} {b : Nat} {As : List Value} (hpl : plainName y.cls = true) (hy : y.cls ≠ "java/lang/invoke/MethodHandle" ∧ y.cls ≠ "java/lang/invoke/VarHandle") (hco : Cond.code y bytes maxL none ∈ B) (hy1 : y.name = "<init>") (hin : Cond.instanceMethod y ∈ B) (hlk : Cond.methodLinkNest own ix y host ∈ B) (hlen : (parseMethodDescriptor y.desc).map (fun d => d.parameters.length) = some As.length) (hav : av = .ref b :: As) (hM : zx_K l B D cl tys y bytes maxL none [] kr nr R' av wc post) (hst : st0 = As.reverse ++ .ref b :: st) (isC isR : List Nat) (hC : isC.map (fun i => ws[i]?) = wc.map some) (hR : isR.map (fun i => ws[i]?) = wr.map some) (hnC : va_nd isC = true) (hnR : va_nd isR = true) (hdis : ∀ i ∈ isR, i ∉ isC) (hfr : R'.frames + 1 ≤ R.frames) (hlo : (st.map fun v => v.category).sum + (maxL + 11) + R'.locals ≤ R.locals) (hce : kc + R'.cells ≤ R.cells) (hsl : ks + R'.slots ≤ R.slots) (hd : decode cc pc = .ok (.invokespecial ix, 3)) (kk : ∀ (o : Outcome) (w1 : va_W), post o w1 → zx_Af p l e R s m args below meth c Q D cl A nL lv (wr ++ w1) (kc + zx_ck o kr R'.cells) (ks + zx_ck o nr R'.slots) pc st o) : zx_At p l e R s m args below meth c Q D cl A nL lv ws kc ks pc st0 := by
  subst hav
  obtain ⟨mk, hw⟩ := zx_cw.of (C.w hco)
  refine zx_go C hw hpl hM isC isR hC hR hnC hnR hdis hfr hlo hce hsl hd (fun T locs ls hP X => ?_) kk
  obtain ⟨methM, cM, hn, hm, -, -, -, -, -, -, hsig⟩ := hw
  have hmag : e.platform.magicAccessors = ({} : Platform).magicAccessors := by rw [X.admits.platform]
  obtain ⟨mk2, methM2, cM2, kP, vm₁, hn2, hm2, -, -, -, -, hkP, -, hW₁, hstep₁⟩ := Steps.initColdArgsNest (e := e) X.here C.hx X.warmed hmag C.ho hy1 hy (C.w hlk) (C.w hin) (C.w hco) (f := F0 m pc ls st0) rfl (argsL := As) (rest := st) (a := b) (fun sig h => by rw [h] at hlen; exact (Option.some.inj hlen).symm) hst (by rw [C.hb]; exact hd)
  cases hn.symm.trans hn2
  exact ⟨vm₁, X.noted hW₁, hstep₁⟩
end ZY
