/-- the child with this last index, along the siblings -/
def zk_find (ns li : Nat → Nat) (ix : Nat) : Nat → Nat → Nat
  | 0, _ => 0
  | d + 1, c => if c = 0 then 0 else if li c = ix then c else zk_find ns li ix d (ns c)
def zk_clr (m : Nat) (fc : Nat → Nat) : Nat → Nat := fun j => if j < 2 ^ m then 0 else fc j
theorem zk_clr_f (m : Nat) (fc : Nat → Nat) : (fun k => if k < 2 ^ m then (0 : Int32) else (zf fc) k) = zf (zk_clr m fc) := by
  funext k
  unfold zk_clr zf
  by_cases h : k < 2 ^ m
  · simp only [if_pos h]; rfl
  · simp only [if_neg h]
set_option maxRecDepth 100000 in
set_option maxHeartbeats 4000000 in
theorem sg_PK_child {p : Program} {l : Launch} {e : Env} {R : Room} {s : State} {mi : MethodId} {args : Array Value} {below : List Frame} {meth : Method} {co : Code} {D : va_G} {cB cI cL : ClassId} {Q : State → Prop} {A : Nat → Prop} (C : zx_C p s mi args co b_PK_childOf 5 R_PK zB D zcl (zt cB cI cL) A) {a na ka fa sa la r ix : Nat} {fc ns li : Nat → Nat} (b5 : (nI r) = nI r ∧ r < 4096) (e5 : ((zf fc) r) = (nI (fc r))) (k10 : zx_At p l e R s mi args below meth co Q D zcl A 5 [(0, .ref a), (1, .int (nI r)), (2, .int (nI ix)), (3, .int (nI (fc r))), (4, .int (0 : Int32))] [(a, .inr (3, [.ref na, .ref ka, .ref fa, .ref sa, .ref la])), (fa, .inl (cI, 4096, .inl (zf fc))), (sa, .inl (cI, 4096, .inl (zf ns))), (la, .inl (cI, 4096, .inl (zf li)))] 0 0 10 []) : zx_At p l e R s mi args below meth co Q D zcl A 5 [(0, .ref a), (1, .int (nI r)), (2, .int (nI ix))] [(a, .inr (3, [.ref na, .ref ka, .ref fa, .ref sa, .ref la])), (fa, .inl (cI, 4096, .inl (zf fc))), (sa, .inl (cI, 4096, .inl (zf ns))), (la, .inl (cI, 4096, .inl (zf li)))] 0 0 0 [] := by
  refine zx_aload_n (pc := 0) C d_PK_childOf_0 rfl 0 rfl ?_
  refine zx_get (pc := 1) (ci := 3) (Cn := R_PK) (T := T_PK) (N := 5) (v := .ref fa) C zu_PK 0 rfl rfl 2 (by decide) zw_115 rfl rfl d_PK_childOf_1 ?_
  refine zx_iload_n (pc := 4) C d_PK_childOf_4 rfl 1 rfl ?_
  refine zx_iald (pc := 5) C 1 1 rfl rfl r (b5).1 (b5).2 (by decide) d_PK_childOf_5 ?_
  refine zx_seti (nI (fc r)) (e5) ?_
  refine zx_istore_n (pc := 6) C d_PK_childOf_6 rfl (by decide) (lv' := [(3, .int (nI (fc r))), (0, .ref a), (1, .int (nI r)), (2, .int (nI ix))]) rfl ?_
  refine zx_iconst (pc := 7) C d_PK_childOf_7 (v := (0 : Int32)) (by decide) ?_
  refine zx_istore (pc := 8) C d_PK_childOf_8 (by decide) (lv' := [(4, .int (0 : Int32)), (3, .int (nI (fc r))), (0, .ref a), (1, .int (nI r)), (2, .int (nI ix))]) rfl ?_
  refine zx_lv (lv' := [(0, .ref a), (1, .int (nI r)), (2, .int (nI ix)), (3, .int (nI (fc r))), (4, .int (0 : Int32))]) [2, 3, 4, 1, 0] rfl ?_
  exact k10

set_option maxRecDepth 100000 in
set_option maxHeartbeats 4000000 in
theorem sg_PK_child10 {p : Program} {l : Launch} {e : Env} {R : Room} {s : State} {mi : MethodId} {args : Array Value} {below : List Frame} {meth : Method} {co : Code} {D : va_G} {cB cI cL : ClassId} {w0 : va_W} {kr nr : Nat} {post : Outcome → va_W → Prop} (C : zx_C p s mi args co b_PK_childOf 5 R_PK zB D zcl (zt cB cI cL) (va_A w0 s.heap.size)) {a na ka fa sa la r ix ch k : Nat} {fc ns li : Nat → Nat} (hr9 : meth.sig.returnType = some .int) (hlk9 : meth.locks = false) (r48 : ((4096 : Int32) ≤ (nI k)) → post (.returned (some (.int (0 : Int32)))) [(a, .inr (3, [.ref na, .ref ka, .ref fa, .ref sa, .ref la])), (fa, .inl (cI, 4096, .inl (zf fc))), (sa, .inl (cI, 4096, .inl (zf ns))), (la, .inl (cI, 4096, .inl (zf li)))]) (r48_2 : (¬ (4096 : Int32) ≤ (nI k)) → ((nI ch) = 0) → post (.returned (some (.int (0 : Int32)))) [(a, .inr (3, [.ref na, .ref ka, .ref fa, .ref sa, .ref la])), (fa, .inl (cI, 4096, .inl (zf fc))), (sa, .inl (cI, 4096, .inl (zf ns))), (la, .inl (cI, 4096, .inl (zf li)))]) (b27 : (¬ (4096 : Int32) ≤ (nI k)) → (¬ (nI ch) = 0) → (nI ch) = nI ch ∧ ch < 4096) (e27 : (¬ (4096 : Int32) ≤ (nI k)) → (¬ (nI ch) = 0) → ((zf li) ch) = (nI (li ch))) (b39 : (¬ (4096 : Int32) ≤ (nI k)) → (¬ (nI ch) = 0) → (¬ (nI (li ch)) = (nI ix)) → (nI ch) = nI ch ∧ ch < 4096) (e39 : (¬ (4096 : Int32) ≤ (nI k)) → (¬ (nI ch) = 0) → (¬ (nI (li ch)) = (nI ix)) → ((zf ns) ch) = (nI (ns ch))) (e41 : (¬ (4096 : Int32) ≤ (nI k)) → (¬ (nI ch) = 0) → (¬ (nI (li ch)) = (nI ix)) → (nI k) + (1 : Int32) = (nI (k + 1))) (k10 : (¬ (4096 : Int32) ≤ (nI k)) → (¬ (nI ch) = 0) → (¬ (nI (li ch)) = (nI ix)) → zx_At p l e R s mi args below meth co (zx_Q below s D zcl w0 kr nr R post) D zcl (va_A w0 s.heap.size) 5 [(0, .ref a), (1, .int (nI r)), (2, .int (nI ix)), (3, .int (nI (ns ch))), (4, .int (nI (k + 1)))] [(a, .inr (3, [.ref na, .ref ka, .ref fa, .ref sa, .ref la])), (fa, .inl (cI, 4096, .inl (zf fc))), (sa, .inl (cI, 4096, .inl (zf ns))), (la, .inl (cI, 4096, .inl (zf li)))] 0 0 10 []) (r33 : (¬ (4096 : Int32) ≤ (nI k)) → (¬ (nI ch) = 0) → ((nI (li ch)) = (nI ix)) → post (.returned (some (.int (nI ch)))) [(a, .inr (3, [.ref na, .ref ka, .ref fa, .ref sa, .ref la])), (fa, .inl (cI, 4096, .inl (zf fc))), (sa, .inl (cI, 4096, .inl (zf ns))), (la, .inl (cI, 4096, .inl (zf li)))]) : zx_At p l e R s mi args below meth co (zx_Q below s D zcl w0 kr nr R post) D zcl (va_A w0 s.heap.size) 5 [(0, .ref a), (1, .int (nI r)), (2, .int (nI ix)), (3, .int (nI ch)), (4, .int (nI k))] [(a, .inr (3, [.ref na, .ref ka, .ref fa, .ref sa, .ref la])), (fa, .inl (cI, 4096, .inl (zf fc))), (sa, .inl (cI, 4096, .inl (zf ns))), (la, .inl (cI, 4096, .inl (zf li)))] 0 0 10 [] := by
  refine zx_iload (pc := 10) C d_PK_childOf_10 4 rfl ?_
  refine zx_sipush (pc := 12) C d_PK_childOf_12 (v := (4096 : Int32)) (by decide) ?_
  refine zx_icmp_ge (pc := 15) C 47 d_PK_childOf_15 (by decide) (fun c15 => ?_) (fun c15 => ?_)
  · refine zx_iconst (pc := 47) C d_PK_childOf_47 (v := (0 : Int32)) (by decide) ?_
    exact zx_iret (pc := 48) C hr9 hlk9 (Nat.zero_le _) (Nat.zero_le _) d_PK_childOf_48 (r48 c15)
  · refine zx_iload_n (pc := 18) C d_PK_childOf_18 rfl 3 rfl ?_
    refine zx_if_eq (pc := 19) C 47 d_PK_childOf_19 (by decide) (fun c19 => ?_) (fun c19 => ?_)
    · refine zx_iconst (pc := 47) C d_PK_childOf_47 (v := (0 : Int32)) (by decide) ?_
      exact zx_iret (pc := 48) C hr9 hlk9 (Nat.zero_le _) (Nat.zero_le _) d_PK_childOf_48 (r48_2 c15 c19)
    · refine zx_aload_n (pc := 22) C d_PK_childOf_22 rfl 0 rfl ?_
      refine zx_get (pc := 23) (ci := 3) (Cn := R_PK) (T := T_PK) (N := 5) (v := .ref la) C zu_PK 0 rfl rfl 4 (by decide) zw_117 rfl rfl d_PK_childOf_23 ?_
      refine zx_iload_n (pc := 26) C d_PK_childOf_26 rfl 3 rfl ?_
      refine zx_iald (pc := 27) C 3 1 rfl rfl ch (b27 c15 c19).1 (b27 c15 c19).2 (by decide) d_PK_childOf_27 ?_
      refine zx_seti (nI (li ch)) (e27 c15 c19) ?_
      refine zx_iload_n (pc := 28) C d_PK_childOf_28 rfl 2 rfl ?_
      refine zx_icmp_ne (pc := 29) C 34 d_PK_childOf_29 (by decide) (fun c29 => ?_) (fun c29 => ?_)
      · refine zx_aload_n (pc := 34) C d_PK_childOf_34 rfl 0 rfl ?_
        refine zx_get (pc := 35) (ci := 3) (Cn := R_PK) (T := T_PK) (N := 5) (v := .ref sa) C zu_PK 0 rfl rfl 3 (by decide) zw_116 rfl rfl d_PK_childOf_35 ?_
        refine zx_iload_n (pc := 38) C d_PK_childOf_38 rfl 3 rfl ?_
        refine zx_iald (pc := 39) C 2 1 rfl rfl ch (b39 c15 c19 c29).1 (b39 c15 c19 c29).2 (by decide) d_PK_childOf_39 ?_
        refine zx_seti (nI (ns ch)) (e39 c15 c19 c29) ?_
        refine zx_istore_n (pc := 40) C d_PK_childOf_40 rfl (by decide) (lv' := [(3, .int (nI (ns ch))), (0, .ref a), (1, .int (nI r)), (2, .int (nI ix)), (4, .int (nI k))]) rfl ?_
        refine zx_iinc (pc := 41) C d_PK_childOf_41 4 rfl (v := (nI (k + 1))) (e41 c15 c19 c29) (by decide) (lv' := [(4, .int (nI (k + 1))), (3, .int (nI (ns ch))), (0, .ref a), (1, .int (nI r)), (2, .int (nI ix))]) rfl ?_
        refine zx_goto (pc := 44) C 10 d_PK_childOf_44 (by decide) ?_
        refine zx_lv (lv' := [(0, .ref a), (1, .int (nI r)), (2, .int (nI ix)), (3, .int (nI (ns ch))), (4, .int (nI (k + 1)))]) [2, 3, 4, 1, 0] rfl ?_
        exact k10 c15 c19 c29
      · refine zx_iload_n (pc := 32) C d_PK_childOf_32 rfl 3 rfl ?_
        exact zx_iret (pc := 33) C hr9 hlk9 (Nat.zero_le _) (Nat.zero_le _) d_PK_childOf_33 (r33 c15 c19 c29)

set_option maxHeartbeats 1000000 in
theorem k_PK_childOf (l : Launch) (D : va_G) (cB cI cL : ClassId) (R : Room) (a na ka fa sa la r ix : Nat) (fc ns li : Nat → Nat) (hr0 : r < 4096) (hix : ix < 256) (hfc : ∀ j, fc j < 4096) (hns : ∀ j, ns j < 4096) (hli : ∀ j, li j < 256) : zx_K l zB D zcl (zt cB cI cL) y_PK_childOf b_PK_childOf 5 (some .int) [] 0 0 R [.ref a, .int (nI r), .int (nI ix)] [(a, .inr (3, [.ref na, .ref ka, .ref fa, .ref sa, .ref la])), (fa, .inl (cI, 4096, .inl (zf fc))), (sa, .inl (cI, 4096, .inl (zf ns))), (la, .inl (cI, 4096, .inl (zf li)))] (fun o w => o = .returned (some (.int (nI (zk_find ns li ix 4096 (fc r))))) ∧ w = [(a, .inr (3, [.ref na, .ref ka, .ref fa, .ref sa, .ref la])), (fa, .inl (cI, 4096, .inl (zf fc))), (sa, .inl (cI, 4096, .inl (zf ns))), (la, .inl (cI, 4096, .inl (zf li)))]) := by
  refine zx_K.mk (Nat.le_of_ble_eq_true rfl) (fun p e s mm below meth c9 C hr hlk ht hnm => ?_)
  have loop : ∀ (d k ch : Nat), k + d = 4096 → ch < 4096 → zk_find ns li ix d ch = zk_find ns li ix 4096 (fc r) → zx_At p l e R s mm (([.ref a, .int (nI r), .int (nI ix)] : List Value)).toArray below meth c9 (zx_Q below s D zcl [(a, .inr (3, [.ref na, .ref ka, .ref fa, .ref sa, .ref la])), (fa, .inl (cI, 4096, .inl (zf fc))), (sa, .inl (cI, 4096, .inl (zf ns))), (la, .inl (cI, 4096, .inl (zf li)))] 0 0 R (fun o w => o = .returned (some (.int (nI (zk_find ns li ix 4096 (fc r))))) ∧ w = [(a, .inr (3, [.ref na, .ref ka, .ref fa, .ref sa, .ref la])), (fa, .inl (cI, 4096, .inl (zf fc))), (sa, .inl (cI, 4096, .inl (zf ns))), (la, .inl (cI, 4096, .inl (zf li)))])) D zcl (va_A [(a, .inr (3, [.ref na, .ref ka, .ref fa, .ref sa, .ref la])), (fa, .inl (cI, 4096, .inl (zf fc))), (sa, .inl (cI, 4096, .inl (zf ns))), (la, .inl (cI, 4096, .inl (zf li)))] s.heap.size) 5 [(0, .ref a), (1, .int (nI r)), (2, .int (nI ix)), (3, .int (nI ch)), (4, .int (nI k))] [(a, .inr (3, [.ref na, .ref ka, .ref fa, .ref sa, .ref la])), (fa, .inl (cI, 4096, .inl (zf fc))), (sa, .inl (cI, 4096, .inl (zf ns))), (la, .inl (cI, 4096, .inl (zf li)))] 0 0 10 [] := by
    intro d
    induction d with
    | zero =>
      intro k ch hk hch he
      have key : (4096 : Int32) ≤ nI k := by rw [show k = 4096 by omega]; decide
      rw [zk_find] at he
      exact sg_PK_child10 C hr hlk (fun _ => ⟨by rw [← he]; rfl, rfl⟩) (fun z => absurd key z) (fun z => absurd key z) (fun z => absurd key z) (fun z => absurd key z) (fun z => absurd key z) (fun z => absurd key z) (fun z => absurd key z) (fun z => absurd key z)
    | succ d ih =>
      intro k ch hk hch he
      have nk : ¬ (4096 : Int32) ≤ nI k := fun z => absurd ((zp_ge (k := 4096) (K := 4096) rfl (by omega) (by decide)).mp z) (by omega)
      have k0 : nI ch = 0 ↔ ch = 0 := zp_eq (k := 0) (K := 0) rfl (by omega) (by decide)
      have h1 := hli ch
      have k1 : nI (li ch) = nI ix ↔ li ch = ix := nI_eq (by omega) (by omega)
      rw [zk_find] at he
      refine sg_PK_child10 C hr hlk (fun z => absurd z nk) (fun _ z => ⟨?_, rfl⟩) (fun _ _ => ⟨rfl, hch⟩) (fun _ _ => rfl) (fun _ _ _ => ⟨rfl, hch⟩) (fun _ _ _ => rfl) (fun _ _ _ => nI_1 k) (fun _ z1 z2 => ?_) (fun _ z1 z2 => ⟨?_, rfl⟩)
      · rw [if_pos (k0.mp z)] at he
        rw [← he]; rfl
      · rw [if_neg (mt k0.mpr z1), if_neg (mt k1.mpr z2)] at he
        exact ih (k + 1) (ns ch) (by omega) (hns ch) he
      · rw [if_neg (mt k0.mpr z1), if_pos (k1.mp z2)] at he
        rw [← he]
  exact sg_PK_child C ⟨rfl, hr0⟩ rfl (loop 4096 0 (fc r) rfl (hfc r) rfl)
set_option maxRecDepth 100000 in
set_option maxHeartbeats 4000000 in
theorem sg_PK_add {p : Program} {l : Launch} {e : Env} {s : State} {mi : MethodId} {args : Array Value} {below : List Frame} {meth : Method} {co : Code} {D : va_G} {cB cI cL : ClassId} {w0 : va_W} {kr nr : Nat} {post : Outcome → va_W → Prop} (C : zx_C p s mi args co b_PK_addChild 4 R_PK zB D zcl (zt cB cI cL) (va_A w0 s.heap.size)) {a na ka fa sa la m b x r ix : Nat} {fr : Bool} {fc ns li : Nat → Nat} (hx : x < 2 ^ 31) (hr9 : meth.sig.returnType = none) (hlk9 : meth.locks = false) (b25 : (¬ (zb (!fr && decide (x < 4096))) = 0) → (nI x) = nI x ∧ x < 4096) (b32 : (¬ (zb (!fr && decide (x < 4096))) = 0) → (nI x) = nI x ∧ x < 4096) (b43 : (¬ (zb (!fr && decide (x < 4096))) = 0) → (nI r) = nI r ∧ r < 4096) (b44 : (¬ (zb (!fr && decide (x < 4096))) = 0) → (nI x) = nI x ∧ x < 4096) (b51 : (¬ (zb (!fr && decide (x < 4096))) = 0) → (nI r) = nI r ∧ r < 4096) (r52 : (¬ (zb (!fr && decide (x < 4096))) = 0) → post (.returned none) [(a, .inr (3, [.ref na, .ref ka, .ref fa, .ref sa, .ref la])), (na, .inr (0, [.int (nI m), .int (nI b), .int (nI x), .int (zb fr)])), (fa, .inl (cI, 4096, .inl (upd (upd (zf fc) x (0 : Int32)) r (nI x)))), (sa, .inl (cI, 4096, .inl (upd (zf ns) x ((upd (zf fc) x (0 : Int32)) r)))), (la, .inl (cI, 4096, .inl (upd (zf li) x (nI ix))))]) (r10 : ((zb (!fr && decide (x < 4096))) = 0) → post (.returned none) [(a, .inr (3, [.ref na, .ref ka, .ref fa, .ref sa, .ref la])), (na, .inr (0, [.int (nI m), .int (nI b), .int (nI x), .int (zb fr)])), (fa, .inl (cI, 4096, .inl (zf fc))), (sa, .inl (cI, 4096, .inl (zf ns))), (la, .inl (cI, 4096, .inl (zf li)))]) : zx_At p l e (zr 2 0 0) s mi args below meth co (zx_Q below s D zcl w0 kr nr (zr 2 0 0) post) D zcl (va_A w0 s.heap.size) 4 [(0, .ref a), (1, .int (nI r)), (2, .int (nI ix))] [(a, .inr (3, [.ref na, .ref ka, .ref fa, .ref sa, .ref la])), (na, .inr (0, [.int (nI m), .int (nI b), .int (nI x), .int (zb fr)])), (fa, .inl (cI, 4096, .inl (zf fc))), (sa, .inl (cI, 4096, .inl (zf ns))), (la, .inl (cI, 4096, .inl (zf li)))] 0 0 0 [] := by
  refine zx_aload_n (pc := 0) C d_PK_addChild_0 rfl 0 rfl ?_
  refine zx_get (pc := 1) (ci := 3) (Cn := R_PK) (T := T_PK) (N := 5) (v := .ref na) C zu_PK 0 rfl rfl 0 (by decide) zw_113 rfl rfl d_PK_addChild_1 ?_
  refine zx_callV (pc := 4) (ix := 90) (As := []) (b := na) (q0 := 1) (wr := [(a, .inr (3, [.ref na, .ref ka, .ref fa, .ref sa, .ref la])), (fa, .inl (cI, 4096, .inl (zf fc))), (sa, .inl (cI, 4096, .inl (zf ns))), (la, .inl (cI, 4096, .inl (zf li)))]) (st := []) C (zx_cw.of (C.w zw_305)) (by decide +kernel) ⟨by decide +kernel, by decide +kernel⟩ zw_303 zw_304 zw_666 rfl rfl rfl rfl rfl (k_NU_nextCodeMakesRow l D cB cI cL na x (nI m) (nI b) fr hx) rfl [1] [0, 2, 3, 4] rfl rfl (by decide) (by decide) (by decide) (Nat.le_of_ble_eq_true rfl) (Nat.le_of_ble_eq_true rfl) (Nat.le_of_ble_eq_true rfl) (Nat.le_of_ble_eq_true rfl) d_PK_addChild_4 (fun o w1 hp => ?_)
  obtain ⟨rfl, rfl⟩ := hp
  refine zx_ri (k2 := 0) (n2 := 0) rfl rfl ?_
  refine zx_ws (ws' := [(a, .inr (3, [.ref na, .ref ka, .ref fa, .ref sa, .ref la])), (na, .inr (0, [.int (nI m), .int (nI b), .int (nI x), .int (zb fr)])), (fa, .inl (cI, 4096, .inl (zf fc))), (sa, .inl (cI, 4096, .inl (zf ns))), (la, .inl (cI, 4096, .inl (zf li)))]) [0, 4, 1, 2, 3] (by decide) rfl ?_
  refine zx_if_ne (pc := 7) C 11 d_PK_addChild_7 (by decide) (fun c7 => ?_) (fun c7 => ?_)
  · refine zx_aload_n (pc := 11) C d_PK_addChild_11 rfl 0 rfl ?_
    refine zx_get (pc := 12) (ci := 3) (Cn := R_PK) (T := T_PK) (N := 5) (v := .ref na) C zu_PK 0 rfl rfl 0 (by decide) zw_113 rfl rfl d_PK_addChild_12 ?_
    refine zx_getN (pc := 15) (ci := 0) (Cn := R_NU) (T := T_NU) (N := 4) (v := .int (nI x)) C zu_NU 1 rfl rfl 2 (by decide) zw_51 rfl rfl d_PK_addChild_15 ?_
    refine zx_istore_n (pc := 18) C d_PK_addChild_18 rfl (by decide) (lv' := [(3, .int (nI x)), (0, .ref a), (1, .int (nI r)), (2, .int (nI ix))]) rfl ?_
    refine zx_aload_n (pc := 19) C d_PK_addChild_19 rfl 1 rfl ?_
    refine zx_get (pc := 20) (ci := 3) (Cn := R_PK) (T := T_PK) (N := 5) (v := .ref la) C zu_PK 0 rfl rfl 4 (by decide) zw_117 rfl rfl d_PK_addChild_20 ?_
    refine zx_iload_n (pc := 23) C d_PK_addChild_23 rfl 0 rfl ?_
    refine zx_iload_n (pc := 24) C d_PK_addChild_24 rfl 3 rfl ?_
    refine zx_iast (pc := 25) (ws' := [(a, .inr (3, [.ref na, .ref ka, .ref fa, .ref sa, .ref la])), (na, .inr (0, [.int (nI m), .int (nI b), .int (nI x), .int (zb fr)])), (fa, .inl (cI, 4096, .inl (zf fc))), (sa, .inl (cI, 4096, .inl (zf ns))), (la, .inl (cI, 4096, .inl (upd (zf li) x (nI ix))))]) C 4 1 rfl rfl x (b25 c7).1 (b25 c7).2 (by decide) rfl d_PK_addChild_25 ?_
    refine zx_aload_n (pc := 26) C d_PK_addChild_26 rfl 1 rfl ?_
    refine zx_get (pc := 27) (ci := 3) (Cn := R_PK) (T := T_PK) (N := 5) (v := .ref fa) C zu_PK 0 rfl rfl 2 (by decide) zw_115 rfl rfl d_PK_addChild_27 ?_
    refine zx_iload_n (pc := 30) C d_PK_addChild_30 rfl 0 rfl ?_
    refine zx_iconst (pc := 31) C d_PK_addChild_31 (v := (0 : Int32)) (by decide) ?_
    refine zx_iast (pc := 32) (ws' := [(a, .inr (3, [.ref na, .ref ka, .ref fa, .ref sa, .ref la])), (na, .inr (0, [.int (nI m), .int (nI b), .int (nI x), .int (zb fr)])), (fa, .inl (cI, 4096, .inl (upd (zf fc) x (0 : Int32)))), (sa, .inl (cI, 4096, .inl (zf ns))), (la, .inl (cI, 4096, .inl (upd (zf li) x (nI ix))))]) C 2 1 rfl rfl x (b32 c7).1 (b32 c7).2 (by decide) rfl d_PK_addChild_32 ?_
    refine zx_aload_n (pc := 33) C d_PK_addChild_33 rfl 1 rfl ?_
    refine zx_get (pc := 34) (ci := 3) (Cn := R_PK) (T := T_PK) (N := 5) (v := .ref sa) C zu_PK 0 rfl rfl 3 (by decide) zw_116 rfl rfl d_PK_addChild_34 ?_
    refine zx_iload_n (pc := 37) C d_PK_addChild_37 rfl 0 rfl ?_
    refine zx_aload_n (pc := 38) C d_PK_addChild_38 rfl 1 rfl ?_
    refine zx_get (pc := 39) (ci := 3) (Cn := R_PK) (T := T_PK) (N := 5) (v := .ref fa) C zu_PK 0 rfl rfl 2 (by decide) zw_115 rfl rfl d_PK_addChild_39 ?_
    refine zx_iload_n (pc := 42) C d_PK_addChild_42 rfl 2 rfl ?_
    refine zx_iald (pc := 43) C 2 1 rfl rfl r (b43 c7).1 (b43 c7).2 (by decide) d_PK_addChild_43 ?_
    refine zx_iast (pc := 44) (ws' := [(a, .inr (3, [.ref na, .ref ka, .ref fa, .ref sa, .ref la])), (na, .inr (0, [.int (nI m), .int (nI b), .int (nI x), .int (zb fr)])), (fa, .inl (cI, 4096, .inl (upd (zf fc) x (0 : Int32)))), (sa, .inl (cI, 4096, .inl (upd (zf ns) x ((upd (zf fc) x (0 : Int32)) r)))), (la, .inl (cI, 4096, .inl (upd (zf li) x (nI ix))))]) C 3 1 rfl rfl x (b44 c7).1 (b44 c7).2 (by decide) rfl d_PK_addChild_44 ?_
    refine zx_aload_n (pc := 45) C d_PK_addChild_45 rfl 1 rfl ?_
    refine zx_get (pc := 46) (ci := 3) (Cn := R_PK) (T := T_PK) (N := 5) (v := .ref fa) C zu_PK 0 rfl rfl 2 (by decide) zw_115 rfl rfl d_PK_addChild_46 ?_
    refine zx_iload_n (pc := 49) C d_PK_addChild_49 rfl 2 rfl ?_
    refine zx_iload_n (pc := 50) C d_PK_addChild_50 rfl 0 rfl ?_
    refine zx_iast (pc := 51) (ws' := [(a, .inr (3, [.ref na, .ref ka, .ref fa, .ref sa, .ref la])), (na, .inr (0, [.int (nI m), .int (nI b), .int (nI x), .int (zb fr)])), (fa, .inl (cI, 4096, .inl (upd (upd (zf fc) x (0 : Int32)) r (nI x)))), (sa, .inl (cI, 4096, .inl (upd (zf ns) x ((upd (zf fc) x (0 : Int32)) r)))), (la, .inl (cI, 4096, .inl (upd (zf li) x (nI ix))))]) C 2 1 rfl rfl r (b51 c7).1 (b51 c7).2 (by decide) rfl d_PK_addChild_51 ?_
    exact zx_vret (pc := 52) C hr9 hlk9 (Nat.zero_le _) (Nat.zero_le _) d_PK_addChild_52 (r52 c7)
  · exact zx_vret (pc := 10) C hr9 hlk9 (Nat.zero_le _) (Nat.zero_le _) d_PK_addChild_10 (r10 c7)

theorem k_PK_addChild (l : Launch) (D : va_G) (cB cI cL : ClassId) (a na ka fa sa la m b x r ix : Nat) (fr : Bool) (fc ns li : Nat → Nat) (hx : x < 4096) (hr0 : r < 4096) (hrx : fr = false → r ≠ x) : zx_K l zB D zcl (zt cB cI cL) y_PK_addChild b_PK_addChild 4 (none) [] 0 0 (zr 2 0 0) [.ref a, .int (nI r), .int (nI ix)] [(a, .inr (3, [.ref na, .ref ka, .ref fa, .ref sa, .ref la])), (na, .inr (0, [.int (nI m), .int (nI b), .int (nI x), .int (zb fr)])), (fa, .inl (cI, 4096, .inl (zf fc))), (sa, .inl (cI, 4096, .inl (zf ns))), (la, .inl (cI, 4096, .inl (zf li)))] (fun o w => (fr = true ∧ o = .returned none ∧ w = [(a, .inr (3, [.ref na, .ref ka, .ref fa, .ref sa, .ref la])), (na, .inr (0, [.int (nI m), .int (nI b), .int (nI x), .int (zb fr)])), (fa, .inl (cI, 4096, .inl (zf fc))), (sa, .inl (cI, 4096, .inl (zf ns))), (la, .inl (cI, 4096, .inl (zf li)))]) ∨ (fr = false ∧ o = .returned none ∧ w = [(a, .inr (3, [.ref na, .ref ka, .ref fa, .ref sa, .ref la])), (na, .inr (0, [.int (nI m), .int (nI b), .int (nI x), .int (zb fr)])), (fa, .inl (cI, 4096, .inl (zf (updN (updN fc x 0) r x)))), (sa, .inl (cI, 4096, .inl (zf (updN ns x (fc r))))), (la, .inl (cI, 4096, .inl (zf (updN li x ix))))])) := by
  refine zx_K.mk (Nat.le_of_ble_eq_true rfl) (fun p e s mm below meth c9 C hr hlk ht hnm => ?_)
  have hcond : ¬ zb (!fr && decide (x < 4096)) = 0 → fr = false := fun h => by
    cases fr with
    | false => rfl
    | true => exact absurd rfl h
  refine sg_PK_add C (by omega) hr hlk (fun _ => ⟨rfl, hx⟩) (fun _ => ⟨rfl, hx⟩) (fun _ => ⟨rfl, hr0⟩) (fun _ => ⟨rfl, hx⟩) (fun _ => ⟨rfl, hr0⟩) (fun z => ?_) (fun z => ?_)
  · refine Or.inr ⟨hcond z, rfl, ?_⟩
    have e1 : upd (zf fc) x (0 : Int32) = zf (updN fc x 0) := zf_upd fc x 0
    have hq := hrx (hcond z)
    have e2 : zf (updN fc x 0) r = nI (fc r) := by simp [zf, updN, hq]
    rw [e1, e2, zf_upd, zf_upd, zf_upd]
  · refine Or.inl ⟨?_, rfl, rfl⟩
    cases fr with
    | true => rfl
    | false =>
      rw [decide_eq_true hx] at z
      exact absurd z (by decide)
set_option maxRecDepth 100000 in
set_option maxHeartbeats 4000000 in
theorem sg_PK_beg {p : Program} {l : Launch} {e : Env} {s : State} {mi : MethodId} {args : Array Value} {below : List Frame} {meth : Method} {co : Code} {D : va_G} {cB cI cL : ClassId} {w0 : va_W} {kr nr : Nat} {post : Outcome → va_W → Prop} (C : zx_C p s mi args co b_PK_writeBeginning 1 R_PK zB D zcl (zt cB cI cL) (va_A w0 s.heap.size)) {a na ka ab fa sa la m b x n v wb V P : Nat} {fr : Bool} {fc : Nat → Nat} {f : Nat → Int32} (hm : m ≤ 8) (hb : b ≤ 12) (hmb : m + 1 ≤ b) (hz : zS f n v wb V P) (hwb : wb < 8) (hn : n ≤ 16384) (hp : 2 ^ m < 2 ^ b) (hp8 : 2 ^ m ≤ 4096) (hr9 : meth.sig.returnType = none) (hlk9 : meth.locks = false) (hl9 : l.stackTraces = false) (ht9 : co.exceptionTable.toList.map (fun h => (h.startPc, h.endPc, h.handlerPc, h.catchType)) = []) (r44 : ∀ f2 : Nat → Int32, ∀ n2 : Nat, ∀ v2 : Nat, ∀ w2 : Nat, (zS f2 n2 v2 w2 (V + (2 ^ m) * 2 ^ P) (P + b) ∧ w2 < 8 ∧ n2 ≤ 16384) → post (.returned none) [(a, .inr (3, [.ref na, .ref ka, .ref fa, .ref sa, .ref la])), (na, .inr (0, [.int (nI m), .int (nI (m + 1)), .int (nI (2 ^ m + 2)), .int 1])), (ka, .inr (1, [.ref ab, .int (nI n2), .int (nI v2), .int (nI w2)])), (ab, .inl (cB, 16384, .inl f2)), (fa, .inl (cI, 4096, .inl (fun k => if k < 2 ^ m then (0 : Int32) else (zf fc) k)))]) (t18 : ∀ f2 : Nat → Int32, ∀ n2 : Nat, ∀ v2 : Nat, ∀ w2 : Nat, (16384 < (P + b) / 8 ∧ ∀ j, vp_nar .byte (f2 j) = f2 j) → ∀ x9 : Nat, post (.threw x9) [(a, .inr (3, [.ref na, .ref ka, .ref fa, .ref sa, .ref la])), (na, .inr (0, [.int (nI m), .int (nI b), .int (nI x), .int (zb fr)])), (ka, .inr (1, [.ref ab, .int (nI n2), .int (nI v2), .int (nI w2)])), (ab, .inl (cB, 16384, .inl f2)), (fa, .inl (cI, 4096, .inl (zf fc))), (x9, .inr (8, []))]) : zx_At p l e (zr 10 1 6) s mi args below meth co (zx_Q below s D zcl w0 kr nr (zr 10 1 6) post) D zcl (va_A w0 s.heap.size) 1 [(0, .ref a)] [(a, .inr (3, [.ref na, .ref ka, .ref fa, .ref sa, .ref la])), (na, .inr (0, [.int (nI m), .int (nI b), .int (nI x), .int (zb fr)])), (ka, .inr (1, [.ref ab, .int (nI n), .int (nI v), .int (nI wb)])), (ab, .inl (cB, 16384, .inl f)), (fa, .inl (cI, 4096, .inl (zf fc)))] 0 0 0 [] := by
  refine zx_aload_n (pc := 0) C d_PK_writeBeginning_0 rfl 0 rfl ?_
  refine zx_get (pc := 1) (ci := 3) (Cn := R_PK) (T := T_PK) (N := 5) (v := .ref ka) C zu_PK 0 rfl rfl 1 (by decide) zw_114 rfl rfl d_PK_writeBeginning_1 ?_
  refine zx_aload_n (pc := 4) C d_PK_writeBeginning_4 rfl 0 rfl ?_
  refine zx_get (pc := 5) (ci := 3) (Cn := R_PK) (T := T_PK) (N := 5) (v := .ref na) C zu_PK 0 rfl rfl 0 (by decide) zw_113 rfl rfl d_PK_writeBeginning_5 ?_
  refine zx_callV (pc := 8) (ix := 71) (As := []) (b := na) (q0 := 1) (wr := [(a, .inr (3, [.ref na, .ref ka, .ref fa, .ref sa, .ref la])), (ka, .inr (1, [.ref ab, .int (nI n), .int (nI v), .int (nI wb)])), (ab, .inl (cB, 16384, .inl f)), (fa, .inl (cI, 4096, .inl (zf fc)))]) (st := [.ref ka]) C (zx_cw.of (C.w zw_296)) (by decide +kernel) ⟨by decide +kernel, by decide +kernel⟩ zw_294 zw_295 zw_374 rfl rfl rfl rfl rfl (k_NU_beginning l D cB cI cL (zr 0 0 0) na m (nI b) (nI x) (zb fr) (by omega)) rfl [1] [0, 2, 3, 4] rfl rfl (by decide) (by decide) (by decide) (Nat.le_of_ble_eq_true rfl) (Nat.le_of_ble_eq_true rfl) (Nat.le_of_ble_eq_true rfl) (Nat.le_of_ble_eq_true rfl) d_PK_writeBeginning_8 (fun o w1 hp => ?_)
  obtain ⟨rfl, rfl⟩ := hp
  refine zx_ri (k2 := 0) (n2 := 0) rfl rfl ?_
  refine zx_ws (ws' := [(a, .inr (3, [.ref na, .ref ka, .ref fa, .ref sa, .ref la])), (na, .inr (0, [.int (nI m), .int (nI b), .int (nI x), .int (zb fr)])), (ka, .inr (1, [.ref ab, .int (nI n), .int (nI v), .int (nI wb)])), (ab, .inl (cB, 16384, .inl f)), (fa, .inl (cI, 4096, .inl (zf fc)))]) [0, 4, 1, 2, 3] (by decide) rfl ?_
  refine zx_aload_n (pc := 11) C d_PK_writeBeginning_11 rfl 0 rfl ?_
  refine zx_get (pc := 12) (ci := 3) (Cn := R_PK) (T := T_PK) (N := 5) (v := .ref na) C zu_PK 0 rfl rfl 0 (by decide) zw_113 rfl rfl d_PK_writeBeginning_12 ?_
  refine zx_getN (pc := 15) (ci := 0) (Cn := R_NU) (T := T_NU) (N := 4) (v := .int (nI b)) C zu_NU 1 rfl rfl 1 (by decide) zw_47 rfl rfl d_PK_writeBeginning_15 ?_
  refine zx_callV (pc := 18) (ix := 65) (As := [.int (nI (2 ^ m)), .int (nI b)]) (b := ka) (q0 := 2) (wr := [(a, .inr (3, [.ref na, .ref ka, .ref fa, .ref sa, .ref la])), (na, .inr (0, [.int (nI m), .int (nI b), .int (nI x), .int (zb fr)])), (fa, .inl (cI, 4096, .inl (zf fc)))]) (st := []) C (zx_cw.of (C.w zw_378)) (by decide +kernel) ⟨by decide +kernel, by decide +kernel⟩ zw_376 zw_377 zw_375 rfl rfl rfl rfl rfl (k_BS_put l D cB cI cL hl9 ka ab n v wb (2 ^ m) b V P f hz hwb hn hp hb) rfl [2, 3] [0, 1, 4] rfl rfl (by decide) (by decide) (by decide) (Nat.le_of_ble_eq_true rfl) (Nat.le_of_ble_eq_true rfl) (Nat.le_of_ble_eq_true rfl) (Nat.le_of_ble_eq_true rfl) d_PK_writeBeginning_18 (fun o w1 hp => ?_)
  rcases hp with ⟨f2, n2, v2, w2, hc18, rfl, rfl⟩ | ⟨f2, n2, v2, w2, hc18, x9, rfl, rfl⟩
  · refine zx_rv (k2 := 0) (n2 := 0) rfl rfl ?_
    refine zx_ws (ws' := [(a, .inr (3, [.ref na, .ref ka, .ref fa, .ref sa, .ref la])), (na, .inr (0, [.int (nI m), .int (nI b), .int (nI x), .int (zb fr)])), (ka, .inr (1, [.ref ab, .int (nI n2), .int (nI v2), .int (nI w2)])), (ab, .inl (cB, 16384, .inl f2)), (fa, .inl (cI, 4096, .inl (zf fc)))]) [0, 1, 3, 4, 2] (by decide) rfl ?_
    refine zx_aload_n (pc := 21) C d_PK_writeBeginning_21 rfl 0 rfl ?_
    refine zx_get (pc := 22) (ci := 3) (Cn := R_PK) (T := T_PK) (N := 5) (v := .ref na) C zu_PK 0 rfl rfl 0 (by decide) zw_113 rfl rfl d_PK_writeBeginning_22 ?_
    refine zx_callV (pc := 25) (ix := 74) (As := []) (b := na) (q0 := 1) (wr := [(a, .inr (3, [.ref na, .ref ka, .ref fa, .ref sa, .ref la])), (ka, .inr (1, [.ref ab, .int (nI n2), .int (nI v2), .int (nI w2)])), (ab, .inl (cB, 16384, .inl f2)), (fa, .inl (cI, 4096, .inl (zf fc)))]) (st := []) C (zx_cw.of (C.w zw_285)) (by decide +kernel) ⟨by decide +kernel, by decide +kernel⟩ zw_283 zw_284 zw_386 rfl rfl rfl rfl rfl (k_NU_beginAnew l D cB cI cL (zr 0 0 0) na m (nI b) (nI x) (zb fr) (by omega)) rfl [1] [0, 2, 3, 4] rfl rfl (by decide) (by decide) (by decide) (Nat.le_of_ble_eq_true rfl) (Nat.le_of_ble_eq_true rfl) (Nat.le_of_ble_eq_true rfl) (Nat.le_of_ble_eq_true rfl) d_PK_writeBeginning_25 (fun o w1 hp => ?_)
    obtain ⟨rfl, rfl⟩ := hp
    refine zx_rv (k2 := 0) (n2 := 0) rfl rfl ?_
    refine zx_ws (ws' := [(a, .inr (3, [.ref na, .ref ka, .ref fa, .ref sa, .ref la])), (na, .inr (0, [.int (nI m), .int (nI (m + 1)), .int (nI (2 ^ m + 2)), .int 1])), (ka, .inr (1, [.ref ab, .int (nI n2), .int (nI v2), .int (nI w2)])), (ab, .inl (cB, 16384, .inl f2)), (fa, .inl (cI, 4096, .inl (zf fc)))]) [0, 4, 1, 2, 3] (by decide) rfl ?_
    refine zx_aload_n (pc := 28) C d_PK_writeBeginning_28 rfl 0 rfl ?_
    refine zx_get (pc := 29) (ci := 3) (Cn := R_PK) (T := T_PK) (N := 5) (v := .ref fa) C zu_PK 0 rfl rfl 2 (by decide) zw_115 rfl rfl d_PK_writeBeginning_29 ?_
    refine zx_iconst (pc := 32) C d_PK_writeBeginning_32 (v := (0 : Int32)) (by decide) ?_
    refine zx_aload_n (pc := 33) C d_PK_writeBeginning_33 rfl 0 rfl ?_
    refine zx_get (pc := 34) (ci := 3) (Cn := R_PK) (T := T_PK) (N := 5) (v := .ref na) C zu_PK 0 rfl rfl 0 (by decide) zw_113 rfl rfl d_PK_writeBeginning_34 ?_
    refine zx_callV (pc := 37) (ix := 71) (As := []) (b := na) (q0 := 1) (wr := [(a, .inr (3, [.ref na, .ref ka, .ref fa, .ref sa, .ref la])), (ka, .inr (1, [.ref ab, .int (nI n2), .int (nI v2), .int (nI w2)])), (ab, .inl (cB, 16384, .inl f2)), (fa, .inl (cI, 4096, .inl (zf fc)))]) (st := [.int (0 : Int32), .ref fa]) C (zx_cw.of (C.w zw_296)) (by decide +kernel) ⟨by decide +kernel, by decide +kernel⟩ zw_294 zw_295 zw_374 rfl rfl rfl rfl rfl (k_NU_beginning l D cB cI cL (zr 0 0 0) na m (nI (m + 1)) (nI (2 ^ m + 2)) 1 (by omega)) rfl [1] [0, 2, 3, 4] rfl rfl (by decide) (by decide) (by decide) (Nat.le_of_ble_eq_true rfl) (Nat.le_of_ble_eq_true rfl) (Nat.le_of_ble_eq_true rfl) (Nat.le_of_ble_eq_true rfl) d_PK_writeBeginning_37 (fun o w1 hp => ?_)
    obtain ⟨rfl, rfl⟩ := hp
    refine zx_ri (k2 := 0) (n2 := 0) rfl rfl ?_
    refine zx_ws (ws' := [(a, .inr (3, [.ref na, .ref ka, .ref fa, .ref sa, .ref la])), (na, .inr (0, [.int (nI m), .int (nI (m + 1)), .int (nI (2 ^ m + 2)), .int 1])), (ka, .inr (1, [.ref ab, .int (nI n2), .int (nI v2), .int (nI w2)])), (ab, .inl (cB, 16384, .inl f2)), (fa, .inl (cI, 4096, .inl (zf fc)))]) [0, 4, 1, 2, 3] (by decide) rfl ?_
    refine zx_iconst (pc := 40) C d_PK_writeBeginning_40 (v := (0 : Int32)) (by decide) ?_
    refine zx_callS (pc := 41) (ix := 77) (wr := [(a, .inr (3, [.ref na, .ref ka, .ref fa, .ref sa, .ref la])), (na, .inr (0, [.int (nI m), .int (nI (m + 1)), .int (nI (2 ^ m + 2)), .int 1])), (ka, .inr (1, [.ref ab, .int (nI n2), .int (nI v2), .int (nI w2)])), (ab, .inl (cB, 16384, .inl f2))]) (st := []) C (zx_cw.of (C.w zw_389)) (by decide +kernel) ⟨by decide +kernel, by decide +kernel⟩ zw_388 zw_14 zw_387 rfl (k_AR_fill l D cB cI cL fa (2 ^ m) (0 : Int32) (zf fc) hp8) rfl [4] [0, 1, 2, 3] rfl rfl (by decide) (by decide) (by decide) (Nat.le_of_ble_eq_true rfl) (Nat.le_of_ble_eq_true rfl) (Nat.le_of_ble_eq_true rfl) (Nat.le_of_ble_eq_true rfl) d_PK_writeBeginning_41 (fun o w1 hp => ?_)
    obtain ⟨rfl, rfl⟩ := hp
    refine zx_rv (k2 := 0) (n2 := 0) rfl rfl ?_
    refine zx_ws (ws' := [(a, .inr (3, [.ref na, .ref ka, .ref fa, .ref sa, .ref la])), (na, .inr (0, [.int (nI m), .int (nI (m + 1)), .int (nI (2 ^ m + 2)), .int 1])), (ka, .inr (1, [.ref ab, .int (nI n2), .int (nI v2), .int (nI w2)])), (ab, .inl (cB, 16384, .inl f2)), (fa, .inl (cI, 4096, .inl (fun k => if k < 2 ^ m then (0 : Int32) else (zf fc) k)))]) [0, 1, 2, 3, 4] (by decide) rfl ?_
    exact zx_vret (pc := 44) C hr9 hlk9 (Nat.zero_le _) (Nat.zero_le _) d_PK_writeBeginning_44 (r44 f2 n2 v2 w2 hc18)
  · exact zx_rt (k2 := 1) (n2 := 6) rfl rfl (zx_wsT (ws' := [(a, .inr (3, [.ref na, .ref ka, .ref fa, .ref sa, .ref la])), (na, .inr (0, [.int (nI m), .int (nI b), .int (nI x), .int (zb fr)])), (ka, .inr (1, [.ref ab, .int (nI n2), .int (nI v2), .int (nI w2)])), (ab, .inl (cB, 16384, .inl f2)), (fa, .inl (cI, 4096, .inl (zf fc))), (x9, .inr (8, []))]) [0, 1, 3, 4, 2, 5] (by decide) rfl (zx_leave hlk9 (zx_noTab ht9 _) (Nat.le_of_ble_eq_true rfl) (Nat.le_of_ble_eq_true rfl) (t18 f2 n2 v2 w2 hc18 x9)))

/-- what writeBeginning gives -/
def zp_beg (a na ka ab fa sa la m b x V P : Nat) (fr : Bool) (fc : Nat → Nat) (cB cI : ClassId) : Outcome → va_W → Prop := fun o w =>
  (∃ (f : Nat → Int32) (n v wb : Nat), (zS f n v wb (V + 2 ^ m * 2 ^ P) (P + b) ∧ wb < 8 ∧ n ≤ 16384) ∧ o = .returned none ∧ w = [(a, .inr (3, [.ref na, .ref ka, .ref fa, .ref sa, .ref la])), (na, .inr (0, [.int (nI m), .int (nI (m + 1)), .int (nI (2 ^ m + 2)), .int 1])), (ka, .inr (1, [.ref ab, .int (nI n), .int (nI v), .int (nI wb)])), (ab, .inl (cB, 16384, .inl f)), (fa, .inl (cI, 4096, .inl (zf (zk_clr m fc))))]) ∨
  (∃ (f : Nat → Int32) (n v wb : Nat), (16384 < (P + b) / 8 ∧ ∀ j, vp_nar .byte (f j) = f j) ∧ ∃ x0 : Nat, o = .threw x0 ∧ w = [(a, .inr (3, [.ref na, .ref ka, .ref fa, .ref sa, .ref la])), (na, .inr (0, [.int (nI m), .int (nI b), .int (nI x), .int (zb fr)])), (ka, .inr (1, [.ref ab, .int (nI n), .int (nI v), .int (nI wb)])), (ab, .inl (cB, 16384, .inl f)), (fa, .inl (cI, 4096, .inl (zf fc))), (x0, .inr (8, []))])
theorem k_PK_writeBeginning (l : Launch) (D : va_G) (cB cI cL : ClassId) (hl : l.stackTraces = false) (a na ka ab fa sa la m b x n v wb V P : Nat) (fr : Bool) (fc : Nat → Nat) (f : Nat → Int32) (hm : m ≤ 8) (hb : b ≤ 12) (hmb : m + 1 ≤ b) (hz : zS f n v wb V P) (hwb : wb < 8) (hn : n ≤ 16384) : zx_K l zB D zcl (zt cB cI cL) y_PK_writeBeginning b_PK_writeBeginning 1 (none) [] 0 0 (zr 10 1 6) [.ref a] [(a, .inr (3, [.ref na, .ref ka, .ref fa, .ref sa, .ref la])), (na, .inr (0, [.int (nI m), .int (nI b), .int (nI x), .int (zb fr)])), (ka, .inr (1, [.ref ab, .int (nI n), .int (nI v), .int (nI wb)])), (ab, .inl (cB, 16384, .inl f)), (fa, .inl (cI, 4096, .inl (zf fc)))] (zp_beg a na ka ab fa sa la m b x V P fr fc cB cI) := by
  refine zx_K.mk (Nat.le_of_ble_eq_true rfl) (fun p e s mm below meth c9 C hr hlk ht hnm => ?_)
  have hp8 := zp_pow8 hm
  have hp : 2 ^ m < 2 ^ b := Nat.pow_lt_pow_right (by decide) (by omega)
  exact sg_PK_beg C hm hb hmb hz hwb hn hp (by omega) hr hlk hl ht (fun f2 n2 v2 w2 h => Or.inl ⟨f2, n2, v2, w2, h, rfl, by rw [zk_clr_f]⟩) (fun f2 n2 v2 w2 h x0 => Or.inr ⟨f2, n2, v2, w2, h, x0, rfl, rfl⟩)
set_option maxRecDepth 100000 in
set_option maxHeartbeats 4000000 in
theorem sg_PK_row {p : Program} {l : Launch} {e : Env} {s : State} {mi : MethodId} {args : Array Value} {below : List Frame} {meth : Method} {co : Code} {D : va_G} {cB cI cL : ClassId} {w0 : va_W} {kr nr : Nat} {post : Outcome → va_W → Prop} (C : zx_C p s mi args co b_PK_writeRow 2 R_PK zB D zcl (zt cB cI cL) (va_A w0 s.heap.size)) {r a na ka ab fa sa la m b x n v wb V P : Nat} {fr : Bool} {fc : Nat → Nat} {f : Nat → Int32} (hm : m ≤ 8) (hb : b ≤ 12) (hmb : m + 1 ≤ b) (hz : zS f n v wb V P) (hwb : wb < 8) (hn : n ≤ 16384) (hx : x ≤ 4096) (hx1 : zn_x x fr < 2 ^ 31) (hr0 : r < 2 ^ b) (hr9 : meth.sig.returnType = none) (hlk9 : meth.locks = false) (hl9 : l.stackTraces = false) (ht9 : co.exceptionTable.toList.map (fun h => (h.startPc, h.endPc, h.handlerPc, h.catchType)) = []) (r36 : ∀ f2 : Nat → Int32, ∀ n2 : Nat, ∀ v2 : Nat, ∀ w2 : Nat, (zS f2 n2 v2 w2 (V + r * 2 ^ P) (P + b) ∧ w2 < 8 ∧ n2 ≤ 16384) → ((zb (decide (4096 ≤ zn_x x fr))) = 0) → post (.returned none) [(a, .inr (3, [.ref na, .ref ka, .ref fa, .ref sa, .ref la])), (na, .inr (0, [.int (nI m), .int (nI (zn_b b x fr)), .int (nI (zn_x x fr)), .int 0])), (ka, .inr (1, [.ref ab, .int (nI n2), .int (nI v2), .int (nI w2)])), (ab, .inl (cB, 16384, .inl f2)), (fa, .inl (cI, 4096, .inl (zf fc)))]) (k33 : ∀ f2 : Nat → Int32, ∀ n2 : Nat, ∀ v2 : Nat, ∀ w2 : Nat, (zS f2 n2 v2 w2 (V + r * 2 ^ P) (P + b) ∧ w2 < 8 ∧ n2 ≤ 16384) → (¬ (zb (decide (4096 ≤ zn_x x fr))) = 0) → zx_At p l e (zr 11 1 6) s mi args below meth co (zx_Q below s D zcl w0 kr nr (zr 11 1 6) post) D zcl (va_A w0 s.heap.size) 2 [(0, .ref a), (1, .int (nI r))] [(a, .inr (3, [.ref na, .ref ka, .ref fa, .ref sa, .ref la])), (na, .inr (0, [.int (nI m), .int (nI (zn_b b x fr)), .int (nI (zn_x x fr)), .int 0])), (ka, .inr (1, [.ref ab, .int (nI n2), .int (nI v2), .int (nI w2)])), (ab, .inl (cB, 16384, .inl f2)), (fa, .inl (cI, 4096, .inl (zf fc)))] 0 0 33 [.ref a]) (t12 : ∀ f2 : Nat → Int32, ∀ n2 : Nat, ∀ v2 : Nat, ∀ w2 : Nat, (16384 < (P + b) / 8 ∧ ∀ j, vp_nar .byte (f2 j) = f2 j) → ∀ x9 : Nat, post (.threw x9) [(a, .inr (3, [.ref na, .ref ka, .ref fa, .ref sa, .ref la])), (na, .inr (0, [.int (nI m), .int (nI b), .int (nI x), .int (zb fr)])), (ka, .inr (1, [.ref ab, .int (nI n2), .int (nI v2), .int (nI w2)])), (ab, .inl (cB, 16384, .inl f2)), (fa, .inl (cI, 4096, .inl (zf fc))), (x9, .inr (8, []))]) : zx_At p l e (zr 11 1 6) s mi args below meth co (zx_Q below s D zcl w0 kr nr (zr 11 1 6) post) D zcl (va_A w0 s.heap.size) 2 [(0, .ref a), (1, .int (nI r))] [(a, .inr (3, [.ref na, .ref ka, .ref fa, .ref sa, .ref la])), (na, .inr (0, [.int (nI m), .int (nI b), .int (nI x), .int (zb fr)])), (ka, .inr (1, [.ref ab, .int (nI n), .int (nI v), .int (nI wb)])), (ab, .inl (cB, 16384, .inl f)), (fa, .inl (cI, 4096, .inl (zf fc)))] 0 0 0 [] := by
  refine zx_aload_n (pc := 0) C d_PK_writeRow_0 rfl 0 rfl ?_
  refine zx_get (pc := 1) (ci := 3) (Cn := R_PK) (T := T_PK) (N := 5) (v := .ref ka) C zu_PK 0 rfl rfl 1 (by decide) zw_114 rfl rfl d_PK_writeRow_1 ?_
  refine zx_iload_n (pc := 4) C d_PK_writeRow_4 rfl 1 rfl ?_
  refine zx_aload_n (pc := 5) C d_PK_writeRow_5 rfl 0 rfl ?_
  refine zx_get (pc := 6) (ci := 3) (Cn := R_PK) (T := T_PK) (N := 5) (v := .ref na) C zu_PK 0 rfl rfl 0 (by decide) zw_113 rfl rfl d_PK_writeRow_6 ?_
  refine zx_getN (pc := 9) (ci := 0) (Cn := R_NU) (T := T_NU) (N := 4) (v := .int (nI b)) C zu_NU 1 rfl rfl 1 (by decide) zw_47 rfl rfl d_PK_writeRow_9 ?_
  refine zx_callV (pc := 12) (ix := 65) (As := [.int (nI r), .int (nI b)]) (b := ka) (q0 := 2) (wr := [(a, .inr (3, [.ref na, .ref ka, .ref fa, .ref sa, .ref la])), (na, .inr (0, [.int (nI m), .int (nI b), .int (nI x), .int (zb fr)])), (fa, .inl (cI, 4096, .inl (zf fc)))]) (st := []) C (zx_cw.of (C.w zw_378)) (by decide +kernel) ⟨by decide +kernel, by decide +kernel⟩ zw_376 zw_377 zw_375 rfl rfl rfl rfl rfl (k_BS_put l D cB cI cL hl9 ka ab n v wb r b V P f hz hwb hn hr0 hb) rfl [2, 3] [0, 1, 4] rfl rfl (by decide) (by decide) (by decide) (Nat.le_of_ble_eq_true rfl) (Nat.le_of_ble_eq_true rfl) (Nat.le_of_ble_eq_true rfl) (Nat.le_of_ble_eq_true rfl) d_PK_writeRow_12 (fun o w1 hp => ?_)
  rcases hp with ⟨f2, n2, v2, w2, hc12, rfl, rfl⟩ | ⟨f2, n2, v2, w2, hc12, x9, rfl, rfl⟩
  · refine zx_rv (k2 := 0) (n2 := 0) rfl rfl ?_
    refine zx_ws (ws' := [(a, .inr (3, [.ref na, .ref ka, .ref fa, .ref sa, .ref la])), (na, .inr (0, [.int (nI m), .int (nI b), .int (nI x), .int (zb fr)])), (ka, .inr (1, [.ref ab, .int (nI n2), .int (nI v2), .int (nI w2)])), (ab, .inl (cB, 16384, .inl f2)), (fa, .inl (cI, 4096, .inl (zf fc)))]) [0, 1, 3, 4, 2] (by decide) rfl ?_
    refine zx_aload_n (pc := 15) C d_PK_writeRow_15 rfl 0 rfl ?_
    refine zx_get (pc := 16) (ci := 3) (Cn := R_PK) (T := T_PK) (N := 5) (v := .ref na) C zu_PK 0 rfl rfl 0 (by decide) zw_113 rfl rfl d_PK_writeRow_16 ?_
    refine zx_callV (pc := 19) (ix := 83) (As := []) (b := na) (q0 := 1) (wr := [(a, .inr (3, [.ref na, .ref ka, .ref fa, .ref sa, .ref la])), (ka, .inr (1, [.ref ab, .int (nI n2), .int (nI v2), .int (nI w2)])), (ab, .inl (cB, 16384, .inl f2)), (fa, .inl (cI, 4096, .inl (zf fc)))]) (st := []) C (zx_cw.of (C.w zw_340)) (by decide +kernel) ⟨by decide +kernel, by decide +kernel⟩ zw_338 zw_339 zw_660 rfl rfl rfl rfl rfl (k_NU_passCode l D cB cI cL na b x (nI m) fr (by omega) hx) rfl [1] [0, 2, 3, 4] rfl rfl (by decide) (by decide) (by decide) (Nat.le_of_ble_eq_true rfl) (Nat.le_of_ble_eq_true rfl) (Nat.le_of_ble_eq_true rfl) (Nat.le_of_ble_eq_true rfl) d_PK_writeRow_19 (fun o w1 hp => ?_)
    obtain ⟨rfl, rfl⟩ := hp
    refine zx_rv (k2 := 0) (n2 := 0) rfl rfl ?_
    refine zx_ws (ws' := [(a, .inr (3, [.ref na, .ref ka, .ref fa, .ref sa, .ref la])), (na, .inr (0, [.int (nI m), .int (nI (zn_b b x fr)), .int (nI (zn_x x fr)), .int 0])), (ka, .inr (1, [.ref ab, .int (nI n2), .int (nI v2), .int (nI w2)])), (ab, .inl (cB, 16384, .inl f2)), (fa, .inl (cI, 4096, .inl (zf fc)))]) [0, 4, 1, 2, 3] (by decide) rfl ?_
    refine zx_aload_n (pc := 22) C d_PK_writeRow_22 rfl 0 rfl ?_
    refine zx_get (pc := 23) (ci := 3) (Cn := R_PK) (T := T_PK) (N := 5) (v := .ref na) C zu_PK 0 rfl rfl 0 (by decide) zw_113 rfl rfl d_PK_writeRow_23 ?_
    refine zx_callV (pc := 26) (ix := 86) (As := []) (b := na) (q0 := 1) (wr := [(a, .inr (3, [.ref na, .ref ka, .ref fa, .ref sa, .ref la])), (ka, .inr (1, [.ref ab, .int (nI n2), .int (nI v2), .int (nI w2)])), (ab, .inl (cB, 16384, .inl f2)), (fa, .inl (cI, 4096, .inl (zf fc)))]) (st := []) C (zx_cw.of (C.w zw_309)) (by decide +kernel) ⟨by decide +kernel, by decide +kernel⟩ zw_307 zw_308 zw_661 rfl rfl rfl rfl rfl (k_NU_isFull l D cB cI cL (zr 0 0 0) na (zn_x x fr) (nI m) (nI (zn_b b x fr)) 0 hx1) rfl [1] [0, 2, 3, 4] rfl rfl (by decide) (by decide) (by decide) (Nat.le_of_ble_eq_true rfl) (Nat.le_of_ble_eq_true rfl) (Nat.le_of_ble_eq_true rfl) (Nat.le_of_ble_eq_true rfl) d_PK_writeRow_26 (fun o w1 hp => ?_)
    obtain ⟨rfl, rfl⟩ := hp
    refine zx_ri (k2 := 0) (n2 := 0) rfl rfl ?_
    refine zx_ws (ws' := [(a, .inr (3, [.ref na, .ref ka, .ref fa, .ref sa, .ref la])), (na, .inr (0, [.int (nI m), .int (nI (zn_b b x fr)), .int (nI (zn_x x fr)), .int 0])), (ka, .inr (1, [.ref ab, .int (nI n2), .int (nI v2), .int (nI w2)])), (ab, .inl (cB, 16384, .inl f2)), (fa, .inl (cI, 4096, .inl (zf fc)))]) [0, 4, 1, 2, 3] (by decide) rfl ?_
    refine zx_if_eq (pc := 29) C 36 d_PK_writeRow_29 (by decide) (fun c29 => ?_) (fun c29 => ?_)
    · exact zx_vret (pc := 36) C hr9 hlk9 (Nat.zero_le _) (Nat.zero_le _) d_PK_writeRow_36 (r36 f2 n2 v2 w2 hc12 c29)
    · refine zx_aload_n (pc := 32) C d_PK_writeRow_32 rfl 0 rfl ?_
      exact k33 f2 n2 v2 w2 hc12 c29
  · exact zx_rt (k2 := 1) (n2 := 6) rfl rfl (zx_wsT (ws' := [(a, .inr (3, [.ref na, .ref ka, .ref fa, .ref sa, .ref la])), (na, .inr (0, [.int (nI m), .int (nI b), .int (nI x), .int (zb fr)])), (ka, .inr (1, [.ref ab, .int (nI n2), .int (nI v2), .int (nI w2)])), (ab, .inl (cB, 16384, .inl f2)), (fa, .inl (cI, 4096, .inl (zf fc))), (x9, .inr (8, []))]) [0, 1, 3, 4, 2, 5] (by decide) rfl (zx_leave hlk9 (zx_noTab ht9 _) (Nat.le_of_ble_eq_true rfl) (Nat.le_of_ble_eq_true rfl) (t12 f2 n2 v2 w2 hc12 x9)))

set_option maxRecDepth 100000 in
set_option maxHeartbeats 4000000 in
theorem sg_PK_row33 {p : Program} {l : Launch} {e : Env} {s : State} {mi : MethodId} {args : Array Value} {below : List Frame} {meth : Method} {co : Code} {D : va_G} {cB cI cL : ClassId} {w0 : va_W} {kr nr : Nat} {post : Outcome → va_W → Prop} (C : zx_C p s mi args co b_PK_writeRow 2 R_PK zB D zcl (zt cB cI cL) (va_A w0 s.heap.size)) {a na ka ab fa sa la m b x n v wb V P : Nat} {r9 : Int32} {fr : Bool} {fc : Nat → Nat} {f : Nat → Int32} (hm : m ≤ 8) (hb : b ≤ 12) (hmb : m + 1 ≤ b) (hz : zS f n v wb V P) (hwb : wb < 8) (hn : n ≤ 16384) (hr9 : meth.sig.returnType = none) (hlk9 : meth.locks = false) (hl9 : l.stackTraces = false) (ht9 : co.exceptionTable.toList.map (fun h => (h.startPc, h.endPc, h.handlerPc, h.catchType)) = []) (r36 : ∀ f2 : Nat → Int32, ∀ n2 : Nat, ∀ v2 : Nat, ∀ w2 : Nat, (zS f2 n2 v2 w2 (V + 2 ^ m * 2 ^ P) (P + b) ∧ w2 < 8 ∧ n2 ≤ 16384) → post (.returned none) [(a, .inr (3, [.ref na, .ref ka, .ref fa, .ref sa, .ref la])), (na, .inr (0, [.int (nI m), .int (nI (m + 1)), .int (nI (2 ^ m + 2)), .int 1])), (ka, .inr (1, [.ref ab, .int (nI n2), .int (nI v2), .int (nI w2)])), (ab, .inl (cB, 16384, .inl f2)), (fa, .inl (cI, 4096, .inl (zf (zk_clr m fc))))]) (t33 : ∀ f2 : Nat → Int32, ∀ n2 : Nat, ∀ v2 : Nat, ∀ w2 : Nat, (16384 < (P + b) / 8 ∧ ∀ j, vp_nar .byte (f2 j) = f2 j) → ∀ x9 : Nat, post (.threw x9) [(a, .inr (3, [.ref na, .ref ka, .ref fa, .ref sa, .ref la])), (na, .inr (0, [.int (nI m), .int (nI b), .int (nI x), .int (zb fr)])), (ka, .inr (1, [.ref ab, .int (nI n2), .int (nI v2), .int (nI w2)])), (ab, .inl (cB, 16384, .inl f2)), (fa, .inl (cI, 4096, .inl (zf fc))), (x9, .inr (8, []))]) : zx_At p l e (zr 11 1 6) s mi args below meth co (zx_Q below s D zcl w0 kr nr (zr 11 1 6) post) D zcl (va_A w0 s.heap.size) 2 [(0, .ref a), (1, .int r9)] [(a, .inr (3, [.ref na, .ref ka, .ref fa, .ref sa, .ref la])), (na, .inr (0, [.int (nI m), .int (nI b), .int (nI x), .int (zb fr)])), (ka, .inr (1, [.ref ab, .int (nI n), .int (nI v), .int (nI wb)])), (ab, .inl (cB, 16384, .inl f)), (fa, .inl (cI, 4096, .inl (zf fc)))] 0 0 33 [.ref a] := by
  refine zx_callV (pc := 33) (ix := 43) (As := []) (b := a) (q0 := 0) (wr := []) (st := []) C (zx_cw.of (C.w zw_373)) (by decide +kernel) ⟨by decide +kernel, by decide +kernel⟩ zw_372 zs_PK_writeBeginning zw_370 rfl rfl rfl rfl rfl (k_PK_writeBeginning l D cB cI cL hl9 a na ka ab fa sa la m b x n v wb V P fr fc f hm hb hmb hz hwb hn) rfl [0, 1, 2, 3, 4] [] rfl rfl (by decide) (by decide) (by decide) (Nat.le_of_ble_eq_true rfl) (Nat.le_of_ble_eq_true rfl) (Nat.le_of_ble_eq_true rfl) (Nat.le_of_ble_eq_true rfl) d_PK_writeRow_33 (fun o w1 hp => ?_)
  rcases hp with ⟨f2, n2, v2, w2, hc33, rfl, rfl⟩ | ⟨f2, n2, v2, w2, hc33, x9, rfl, rfl⟩
  · refine zx_rv (k2 := 0) (n2 := 0) rfl rfl ?_
    refine zx_ws (ws' := [(a, .inr (3, [.ref na, .ref ka, .ref fa, .ref sa, .ref la])), (na, .inr (0, [.int (nI m), .int (nI (m + 1)), .int (nI (2 ^ m + 2)), .int 1])), (ka, .inr (1, [.ref ab, .int (nI n2), .int (nI v2), .int (nI w2)])), (ab, .inl (cB, 16384, .inl f2)), (fa, .inl (cI, 4096, .inl (zf (zk_clr m fc))))]) [0, 1, 2, 3, 4] (by decide) rfl ?_
    exact zx_vret (pc := 36) C hr9 hlk9 (Nat.zero_le _) (Nat.zero_le _) d_PK_writeRow_36 (r36 f2 n2 v2 w2 hc33)
  · exact zx_rt (k2 := 1) (n2 := 6) rfl rfl (zx_leave hlk9 (zx_noTab ht9 _) (Nat.le_of_ble_eq_true rfl) (Nat.le_of_ble_eq_true rfl) (t33 f2 n2 v2 w2 hc33 x9))

/-- the writer's numbers behind a row's code: value, bits so far, bits of a code, next row, first -/
abbrev ZE : Type := Nat × Nat × Nat × Nat × Bool
def ze_row (m r V P b x : Nat) (fr : Bool) : ZE := if 4096 ≤ zn_x x fr then (V + r * 2 ^ P + 2 ^ m * 2 ^ (P + b), P + b + zn_b b x fr, m + 1, 2 ^ m + 2, true) else (V + r * 2 ^ P, P + b, zn_b b x fr, zn_x x fr, false)
def ze_fc (m x : Nat) (fr : Bool) (fc : Nat → Nat) : Nat → Nat := if 4096 ≤ zn_x x fr then zk_clr m fc else fc
/-- what writeRow gives -/
def zp_row (a na ka ab fa sa la m : Nat) (E : ZE) (fc : Nat → Nat) (cB cI : ClassId) : Outcome → va_W → Prop := fun o w =>
  (∃ (f : Nat → Int32) (n v wb : Nat), (zS f n v wb E.1 E.2.1 ∧ wb < 8 ∧ n ≤ 16384) ∧ o = .returned none ∧ w = [(a, .inr (3, [.ref na, .ref ka, .ref fa, .ref sa, .ref la])), (na, .inr (0, [.int (nI m), .int (nI E.2.2.1), .int (nI E.2.2.2.1), .int (zb E.2.2.2.2)])), (ka, .inr (1, [.ref ab, .int (nI n), .int (nI v), .int (nI wb)])), (ab, .inl (cB, 16384, .inl f)), (fa, .inl (cI, 4096, .inl (zf fc)))]) ∨
  (∃ (f : Nat → Int32) (n v wb : Nat) (b9 x9 f9 : Int32) (fc : Nat → Nat), (16384 < E.2.1 / 8 ∧ (∀ j, fc j < 4096) ∧ ∀ j, vp_nar .byte (f j) = f j) ∧ ∃ x0 : Nat, o = .threw x0 ∧ w = [(a, .inr (3, [.ref na, .ref ka, .ref fa, .ref sa, .ref la])), (na, .inr (0, [.int (nI m), .int b9, .int x9, .int f9])), (ka, .inr (1, [.ref ab, .int (nI n), .int (nI v), .int (nI wb)])), (ab, .inl (cB, 16384, .inl f)), (fa, .inl (cI, 4096, .inl (zf fc))), (x0, .inr (8, []))])
set_option maxHeartbeats 1000000 in
theorem k_PK_writeRow (l : Launch) (D : va_G) (cB cI cL : ClassId) (hl : l.stackTraces = false) (r a na ka ab fa sa la m b x n v wb V P : Nat) (fr : Bool) (fc : Nat → Nat) (f : Nat → Int32) (hm : m ≤ 8) (hb : b ≤ 12) (hmb : m + 1 ≤ b) (hx : x ≤ 4096) (hr0 : r < 2 ^ b) (hfc : ∀ j, fc j < 4096) (hz : zS f n v wb V P) (hwb : wb < 8) (hn : n ≤ 16384) : zx_K l zB D zcl (zt cB cI cL) y_PK_writeRow b_PK_writeRow 2 (none) [] 0 0 (zr 11 1 6) [.ref a, .int (nI r)] [(a, .inr (3, [.ref na, .ref ka, .ref fa, .ref sa, .ref la])), (na, .inr (0, [.int (nI m), .int (nI b), .int (nI x), .int (zb fr)])), (ka, .inr (1, [.ref ab, .int (nI n), .int (nI v), .int (nI wb)])), (ab, .inl (cB, 16384, .inl f)), (fa, .inl (cI, 4096, .inl (zf fc)))] (zp_row a na ka ab fa sa la m (ze_row m r V P b x fr) (ze_fc m x fr fc) cB cI) := by
  refine zx_K.mk (Nat.le_of_ble_eq_true rfl) (fun p e s mm below meth c9 C hr hlk ht hnm => ?_)
  have a1 := zn_x_le (fr := fr) hx
  have a2 := zn_b_le (x := x) (fr := fr) hb
  refine sg_PK_row C hm hb hmb hz hwb hn hx (by omega) hr0 hr hlk hl ht (fun f2 n2 v2 w2 h z => ?_) (fun f2 n2 v2 w2 h z => ?_) (fun f2 n2 v2 w2 h x0 => ?_)
  · have q := zb_d.mp z
    rw [show ze_row m r V P b x fr = (V + r * 2 ^ P, P + b, zn_b b x fr, zn_x x fr, false) from if_neg q, show ze_fc m x fr fc = fc from if_neg q]
    exact Or.inl ⟨f2, n2, v2, w2, h, rfl, rfl⟩
  · have q : 4096 ≤ zn_x x fr := by
      by_cases y : 4096 ≤ zn_x x fr
      · exact y
      · exact absurd (zb_d.mpr y) z
    rw [show ze_row m r V P b x fr = (V + r * 2 ^ P + 2 ^ m * 2 ^ (P + b), P + b + zn_b b x fr, m + 1, 2 ^ m + 2, true) from if_pos q, show ze_fc m x fr fc = zk_clr m fc from if_pos q]
    exact sg_PK_row33 (fr := false) C hm a2.2 (by omega) h.1 h.2.1 h.2.2 hr hlk hl ht (fun f3 n3 v3 w3 h3 => Or.inl ⟨f3, n3, v3, w3, h3, rfl, rfl⟩) (fun f3 n3 v3 w3 h3 x0 => Or.inr ⟨f3, n3, v3, w3, _, _, _, fc, ⟨h3.1, hfc, h3.2⟩, x0, rfl, rfl⟩)
  · refine Or.inr ⟨f2, n2, v2, w2, _, _, _, fc, ⟨?_, hfc, h.2⟩, x0, rfl, rfl⟩
    unfold ze_row
    by_cases q : 4096 ≤ zn_x x fr
    · rw [if_pos q]
      have h1 := h.1
      show 16384 < (P + b + zn_b b x fr) / 8
      omega
    · rw [if_neg q]
      exact h.1
