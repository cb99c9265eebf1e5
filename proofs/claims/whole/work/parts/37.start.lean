/-! THE CLAIM OUT OF ONE WALK OF THE LAW'S BODY. Your part is whole_start (and what it stands on); all else here is the same for every law, but numbers. -/
def R_law : String := "LzwBoxLaw"
def lw_P (b : Addr) (xs : List Int32) (args : Array Value) (s : State) : Prop := args = #[.ref b] ∧ s.IntsAt b xs ∧ xs.length ≤ 3072 ∧ (Jvm.Cond.and given_1 narrow_1).before args s = true
def lw_Q (_ : Array Value) (s : State) (o : Outcome) (t : State) : Prop := o = .returned (some (.int 1)) ∧ Framed s o t [] 61024 8913034
def lw_Z (below : List Frame) (a : Array Value) (s : State) : State → Prop := fun t => ∃ o, t.status = .running ∧ Ended t below o ∧ lw_Q a s o t
/-- the law's own end, with 1 on the stack, nothing written that was there before, its room as the claim has it -/
theorem lw_ret {p : Program} {l : Launch} {e : Env} {s : State} {m : MethodId} {below : List Frame} {meth : Method} {c : Code} {b : Nat} (hx : p.tables.exec = Jvm.exec) (hb : c.code = code) (hr : meth.sig.returnType = ret) (hlocks : meth.locks = false) {pc : Nat} {H : Heap} {ls : Array Slot} (hdg : decode code pc = .ok (.ireturn, 1)) : W p l e room_1 s m #[Value.ref b] below meth c H [] 61024 8913034 (lw_Z below #[Value.ref b] s) (F0 m pc ls [.int 1]) := by
  intro T hT X
  obtain ⟨fs, hret, hrun, hended, hW, hframe⟩ := X.leave (v := some (.int 1)) (hlocks := hlocks) (fun h => by rw [hr] at h; cases h)
  have hmeth' : T.vm.method? m = some meth := X.method'
  refine ⟨T.setFrames fs, ?_, .returned (some (.int 1)), hrun, hended, rfl, ⟨_, rfl⟩, hW, hframe⟩
  jvm_step X.here [X.here.top, hx, hb, hdg, hmeth', hr, ret, narrow_b1]
  (try refine ⟨rfl, ?_⟩); (try refine ⟨rfl, ?_⟩)
  first | (intro acts; rw [hret _ acts rfl rfl rfl]) | rw [hret _ _ rfl rfl rfl]
  exact Steps.refl _
/-- what holds at the law's entry: the machine, the code, the tables' words (any of lw_tbl by 'hts w (by decide +kernel)'), the script of L ints xs at the cell b, what the Statement gives of the start (any of its parts by flat_of_before) -/
def lw_At (p : Program) (s : State) (m : MethodId) (meth : Method) (c : Code) (b L : Nat) (xs : Nat → Int32) : Prop :=
  p.tables.exec = Jvm.exec ∧ c.code = code ∧ meth.sig.returnType = ret ∧ c.maxLocals = 8 ∧ s.vm.findClass R_law = some m.cls ∧ (∀ w ∈ lw_tbl, w.before #[Value.ref b] s = true) ∧ va_X b L xs s s.heap ∧ b < s.heap.size ∧ meth.locks = false ∧ (Jvm.Cond.and given_1 narrow_1).before #[Value.ref b] s = true
theorem zx_any {w : Cond} (h : zx_gw w = true) {a0 : Array Value} {s : State} (h0 : w.before a0 s = true) : ∀ a : Array Value, w.before a s = true := by
  have hW := State.WarmedH.refl s
  have plain : goodWord w = true → ∀ a : Array Value, w.before a s = true := fun h a => word_at hW (good_of_word h) h0
  unfold zx_gw at h
  split at h
  · intro a
    exact va_Nw.use rfl (va_Nw.warmF hW (va_Nw.of rfl h0))
  · intro a
    exact va_Nw.use rfl (va_Nw.warmM hW (va_Nw.of rfl h0))
  · intro a
    obtain ⟨c1, c2, h1, h2, h3⟩ := va_Nc.moved hW.alike (va_Nc.of h0)
    simp [Cond.before, Cond.holds, Cond.value, h1, h2, h3]
  · intro a
    rename_i own k tx
    cases hc : s.vm.findClass own with
    | none => simp [Cond.before, Cond.holds, Cond.value, hc] at h0
    | some cur =>
      obtain ⟨k9, cf9, i9, a9, -, -, -, -, -, hev⟩ := Cond.stringRef_spec hc h0
      exact (vk_R.warm hW ⟨h0, hev⟩).1
  · intro a
    obtain ⟨c1, c2, h1, h2, h3⟩ := Cond.castable_spec h0
    have g1 := h1
    have g2 := h2
    rw [← hW.alike.findClass] at g1 g2
    have g3 := h3
    rw [← hW.alike.assignable] at g3
    simp [Cond.before, Cond.holds, Cond.value, g1, g2, g3]
  · intro a
    rename_i x9
    obtain ⟨r0, r, h1, h2, h3, h4⟩ := Cond.declares_spec h0
    have g1 : s.methodNamed? x9 = some r0 := h1
    have g2 : s.vm.method? r0 = some r := by rw [hW.alike.method?]; exact h2
    simp [Cond.before, Cond.holds, Cond.value, g1, g2, h3, h4]
  · exact plain h
theorem whole_start {p : Program} {e : Env} {s : State} {m : MethodId} {below : List Frame} {meth : Method} {c : Code} (l : Launch) (hl : l.stackTraces = false) {b L : Nat} {xs : Nat → Int32} (hL : L ≤ 3072) (C0 : lw_At p s m meth c b L xs) : W p l e room_1 s m #[Value.ref b] below meth c s.heap [] 0 0 (lw_Z below #[Value.ref b] s) (entryFrame m ([Value.ref b] : List Value).toArray 8) := by
  obtain ⟨hx, hb, hr, hml, ho, hts, hX, hbl, hlk, hgv⟩ := C0
  have hn := flat_of_before _ hgv
  have hB : ∀ w ∈ zB, ∀ a : Array Value, w.before a s = true := fun w hw a => by
    obtain ⟨h1, h2⟩ := List.mem_filter.mp hw
    refine zx_any h2 (a0 := #[Value.ref b]) ?_ a
    rcases List.mem_append.mp h1 with h1 | h1
    · simp only [znc, List.mem_cons, List.not_mem_nil, or_false] at h1
      rcases h1 with rfl | rfl | rfl <;> exact hn _ (by decide +kernel)
    · exact hts w h1
  obtain ⟨c0, i0, k0⟩ := u_known (fun w hw => hB w hw #[]) zu_NU (hB _ zw_40 #[])
  obtain ⟨c1, i1, k1⟩ := u_known (fun w hw => hB w hw #[]) zu_BS (hB _ zw_95 #[])
  obtain ⟨c2, i2, k2⟩ := u_known (fun w hw => hB w hw #[]) zu_UN (hB _ zw_34 #[])
  obtain ⟨c3, i3, k3⟩ := u_known (fun w hw => hB w hw #[]) zu_PK (hB _ zw_87 #[])
  obtain ⟨c4, i4, k4⟩ := u_known (fun w hw => hB w hw #[]) zu_LB (hB _ zw_26 #[])
  obtain ⟨c5, i5, k5⟩ := u_known (fun w hw => hB w hw #[]) zu_MO (hB _ zw_696 #[])
  obtain ⟨c6, i6, k6⟩ := u_known (C := "java/lang/IllegalArgumentException") (T := zT0) (N := 0) (fun w hw => hB w hw #[]) (fun w hw => by cases hw) (hB _ zw_247 #[])
  obtain ⟨c7, i7, k7⟩ := u_known (C := "java/lang/UnsupportedOperationException") (T := zT0) (N := 0) (fun w hw => hB w hw #[]) (fun w hw => by cases hw) (hB _ zw_311 #[])
  obtain ⟨c8, i8, k8⟩ := u_known (C := "java/lang/IndexOutOfBoundsException") (T := zT0) (N := 0) (fun w hw => hB w hw #[]) (fun w hw => by cases hw) (hB _ zw_167 #[])
  obtain ⟨cB, kB, qB, b1, b2, b3⟩ := Cond.arrayClass_spec (hB _ zw_62 #[])
  obtain ⟨cI, kI, qI, d1, d2, d3⟩ := Cond.arrayClass_spec (hB _ zw_85 #[])
  obtain ⟨cL, kL, qL, e1, e2, e3⟩ := Cond.arrayClass_spec (hB _ zw_868 #[])
  have hK : va_K (fun c => [c0, c1, c2, c3, c4, c5, c6, c7, c8].getD c c0, fun c => [i0, i1, i2, i3, i4, i5, i6, i7, i8].getD c i0) zcl (zt cB cI cL) s := by
    refine ⟨fun c q hq => ?_, fun k q hk => ?_⟩
    · rcases c with _ | _ | _ | _ | _ | _ | _ | _ | _ | c
      · cases hq; exact k0
      · cases hq; exact k1
      · cases hq; exact k2
      · cases hq; exact k3
      · cases hq; exact k4
      · cases hq; exact k5
      · cases hq; exact k6
      · cases hq; exact k7
      · cases hq; exact k8
      · cases hq
    · rcases k with _ | _ | _ | k
      · cases hk; exact ⟨fun n z => ⟨fun k h => (by cases h), kB, b2, qB, b3⟩, b1⟩
      · cases hk; exact ⟨fun n z => ⟨fun k h => (by cases h), kI, d2, qI, d3⟩, d1⟩
      · cases hk; exact ⟨fun n z => ⟨fun k h => (by cases h), kL, e2, qL, e3⟩, e1⟩
      · cases hk
  have hl1 : (Cond.laysStatic Bundle.tN "UNASSIGNED_STACK" Bundle.steD).before #[Value.ref b] s = true := hts _ (List.mem_append_right _ (List.mem_of_getElem? (i := 193) (by decide +kernel)))
  have hl2 : (Cond.laysStatic Bundle.tN "SUPPRESSED_SENTINEL" Bundle.listD).before #[Value.ref b] s = true := hts _ (List.mem_append_right _ (List.mem_of_getElem? (i := 195) (by decide +kernel)))
  have hi1 : (Cond.initialized Bundle.tN).before #[Value.ref b] s = true := hts _ (List.mem_append_right _ (List.mem_of_getElem? (i := 7) (by decide +kernel)))
  have hr1 : (Cond.isRef (.static Bundle.tN "UNASSIGNED_STACK" Bundle.steD)).before #[Value.ref b] s = true := hn _ (by decide +kernel)
  have hr2 : (Cond.isRef (.static Bundle.tN "SUPPRESSED_SENTINEL" Bundle.listD)).before #[Value.ref b] s = true := hn _ (by decide +kernel)
  have hS : zx_S s := ⟨⟨va_Zqof hl1 hi1 hr1 (fun _ _ h => h), Cond.laysStatic_spec hl1⟩, va_Zqof hl2 hi1 hr2 (fun _ _ h => h), Cond.laysStatic_spec hl2⟩
  have noA : ∀ a : Nat, a < s.heap.size → ¬ va_A [] s.heap.size a := fun a ha hA => by
    rcases hA with ⟨k, e9, hk⟩ | hA
    · simp at hk
    · omega
  have C : zx_C p s m #[Value.ref b] c b_LW_law 8 R_LW zB (fun c => [c0, c1, c2, c3, c4, c5, c6, c7, c8].getD c c0, fun c => [i0, i1, i2, i3, i4, i5, i6, i7, i8].getD c i0) zcl (zt cB cI cL) (va_A [] s.heap.size) := ⟨hx, hb, hml, ho, ⟨hB, hK, hS⟩, zB_good, fun q h => Or.inr h, fun a cell h1 h2 => noA a (Array.getElem?_eq_some_iff.mp h1).1⟩
  have fin := zl_begin (l := l) (e := e) (below := below) (meth := meth) (Q := lw_Z below #[Value.ref b] s) (b := b) C (fun kc ks h1 h2 => by
    refine zl_loop C hl hX hbl (noA b hbl) hL (fun i kc ks g1 g2 => ?_) 512 0 kc ks (by omega) (by omega) (by omega) (by omega)
    intro ax t rr sp ua pa na sa la i0 pn pk pf ps pl qb n r ls ll ma tp rp dp wp op bp lp ep kp ot made9 u1 u2 u3 u4 w1 w2 w3 w4 v1 v2 v3 fl dn wn ba on bb bc cw cx cf rs0 rl0 fc0 ns0 li0 kd f h g mf mg dt rw ou bf mli de og hF
    refine zx_iconst (pc := 526) C d_LW_law_526 (v := (1 : Int32)) (by decide) ?_
    intro H locs ls hls hP hD hSS
    refine va_forget (fun q hq => ?_) (W.widen g1 g2 (lw_ret hx hb hr hlk d_LW_law_527))
    rcases hSS.2.2 q hq with ⟨k, e9, hk⟩ | hA
    · simp at hk
    · exact hA)
  rw [lg_entry_eq]
  exact fin s.heap [] _ (lv_entry [Value.ref b] (Nat.le_of_ble_eq_true rfl)) (fun k x hk => by simp at hk) ⟨fun i j p q h => by simp at h, fun k q h => by simp at h⟩ va_S.rf
set_option maxHeartbeats 4000000 in
theorem lw_walk (l : Launch) (hl : l.stackTraces = false) (b : Addr) (xs : List Int32) : MetFree l x (headSpec (Jvm.Cond.code x code maxLocals ret :: tables_1) room_1) (lw_P b xs) (fun _ _ _ _ _ => True) lw_Q := by
  refine MetFree.of_bodyS (code := code) (maxLocals := maxLocals) (ret := ret) (by decide) ?_ ?_
  · intro args s m h hn
    obtain ⟨meth, c, h1, h2, h3, h4, h5, h6, -, -⟩ := Cond.code_spec hn (atoms_spec (ws := Jvm.Cond.code x code maxLocals ret :: tables_1) h _ List.mem_cons_self)
    exact ⟨meth, c, h1, h2, h3, h4, h5, h6⟩
  · intro p e s m args below meth c s₁ B hml0 hP _
    obtain ⟨rfl, hx, hbd, hgv⟩ := hP
    obtain ⟨scr, harrAt, hlist, hof, hsmall⟩ := hx
    obtain ⟨hcb, hkn, -, -⟩ := State.arrayAt?_spec harrAt
    have hown : s.vm.findClass R_law = some m.cls := findClass_of_methodNamed B.named
    have hts0 : ∀ c ∈ (Jvm.Cond.code x code maxLocals ret :: tables_1), c.before #[Value.ref b] s = true := atoms_spec (ws := Jvm.Cond.code x code maxLocals ret :: tables_1) B.pre
    have hts : ∀ w ∈ lw_tbl, w.before #[Value.ref b] s = true := k2_hts_sels lw_privs (fun w hw => hts0 w (List.mem_cons_of_mem _ hw)) lw_privs_ok
    have hml : c.maxLocals = 8 := B.maxLocals_eq (hts0 _ List.mem_cons_self)
    have X₀ : Stand p l e room_1 s m #[Value.ref b] below meth c s₁ [] 0 0 := Stand.of_body B
    have hh0 : s₁.heap = s.heap := by rw [B.state]; rfl
    have hsz : scr.slots.size = xs.length := by rw [← Array.length_toList, hlist, List.length_map]
    have hval : ∀ j : Nat, j < xs.length → scr.slots[j]? = some (.int (xs.getD j 0)) := fun j hj => by
      rw [← Array.getElem?_toList, hlist]
      simp [hj]
    have hbl : b < s.heap.size := (Array.getElem?_eq_some_iff.mp hcb).1
    have hX : va_X b xs.length (fun j => xs.getD j 0) s s.heap := ⟨scr, hcb, hof, hkn, hsz, hval⟩
    have K : W p l e room_1 s m #[Value.ref b] below meth c s₁.heap [] 0 0 (lw_Z below #[Value.ref b] s) (entryFrame m ([Value.ref b] : List Value).toArray 8) := by
      rw [hh0]
      exact whole_start l hl hbd ⟨B.exec, B.bytes, B.returns, hml, hown, hts, hX, hbl, B.notSynchronized, hgv⟩
    obtain ⟨t, a1, o, b1, b2, b3⟩ := K s₁ rfl X₀
    exact ⟨t, o, a1, b1, b2, b3⟩
theorem lw_pre_spec {args : Array Value} {s : State} (h : (Jvm.Cond.and given_1 narrow_1).before args s = true) (hr : rest_1_c.before args s = true) : ∃ (b : Addr) (xs : List Int32), lw_P b xs args s := by
  have hs := flat_of_before _ h
  have hq := flat_of_before _ hr
  have hc : (Cond.count 1).before args s = true := hs _ (by decide +kernel)
  have harr : (Cond.arrayOf (.arg 0) .int).before args s = true := hs _ (by decide +kernel)
  have hle : (Cond.le (.length (.arg 0)) (.int 3072)).before args s = true := hs _ (by decide +kernel)
  have hlen : (Cond.isInt (.length (.arg 0))).before args s = true := hq _ (by decide +kernel)
  have hall : (Cond.all (.arg 0) (.isInt (.elem (.arg 0) (.index 0)))).before args s = true := hq _ (by decide +kernel)
  obtain ⟨b, xs, hb, hx⟩ := State.ints_of_pre rfl harr hlen hall
  have hsm : xs.length < 2 ^ 31 := hx.choose_spec.2.2.2
  have hev : (Term.length (.arg 0)).eval args s none [] s = some (.int xs.length.toInt32) := hx.length_eval hb
  have hv := Cond.le_ints hev (show (Term.int 3072).eval args s none [] s = some (.int 3072) from rfl)
  have hd : xs.length.toInt32 ≤ 3072 := by
    simpa [Cond.before, Cond.holds, hv] using hle
  have hN : xs.length ≤ 3072 := (Int32.ofNat_le_ofNat hsm (by decide)).mp (show Int32.ofNat xs.length ≤ Int32.ofNat 3072 from hd)
  exact ⟨b, xs, Cond.one_arg hc (show args[0]? = some (.ref b) from hb), hx, hN, h⟩
theorem lw_comes (l : Launch) (hl : l.stackTraces = false) : Comes l x (Jvm.Cond.code x code maxLocals ret :: tables_1) room_1 (fun tb e args s => Calls_1 tb e args s ∧ rest_1 tb e args s ∧ Pre_1 tb e args s)
    (fun _ _ args s o t => lw_Q args s o t) := by
  intro p e ha hc hk s m args below hf hfit hheap happ hpre
  obtain ⟨b, xs, hP⟩ := lw_pre_spec hpre.2.2 hpre.2.1
  obtain ⟨k, o, h1, h2, h3, hQ⟩ := lw_walk l hl b xs p e ha hc hk s m args below hf ((Spec.applies_iff_loose hf).mp happ).1 hP trivial
  exact ⟨k, o, h1, h2, h3, hQ⟩
theorem lw_frame {s t : State} {o : Outcome} {args : Array Value} (h : Framed s o t [] 61024 8913034) :
    Framed s o t (fieldLocs frame_1_writes args s ++ arrayLocs frame_1_arrays args s ++ staticLocs frame_1_statics s) 61024 8913034 := h
theorem lw_limb (L : Cond) (hL : ∀ (args : Array Value) (s t : State), L.after args s (.returned (some (.int 1))) t = true) :
    ArmFor flags0 classFile x code maxLocals ret World_1 tables_1 room_1 Calls_1 rest_1 Pre_1
      (fun tb e a s o t => postC L tb e a s o t ∧ Framed s o t (fieldLocs frame_1_writes a s ++ arrayLocs frame_1_arrays a s ++ staticLocs frame_1_statics s) 61024 8913034) := by
  intro l hfl _ _ p e ha hc hk s m args below hf hfit hheap happ hpre
  obtain ⟨k, o, h1, h2, h3, rfl, hF⟩ := lw_comes l (by unfold Launch.stackTraces; rw [hfl]; decide) p e ha hc hk s m args below hf hfit hheap happ hpre
  exact ⟨k, _, h1, h2, h3, hL args s _, lw_frame hF⟩
theorem i_vc : Claimed_1_1 ∧ Claimed_1_2 := ⟨lw_limb limb_1_1 (fun args s t => by simp [limb_1_1, Cond.after, Cond.holds, Cond.value]), lw_limb limb_1_2 (fun args s t => Cond.after_iff.mpr (by
  first | (rw [show limb_1_2 = Cond.eq .result (.int 1) from rfl, Cond.eq_ints (x := 1) (y := 1) rfl rfl]; simp; done) | (simp [limb_1_2, Cond.value, Term.eval]; done)))⟩
