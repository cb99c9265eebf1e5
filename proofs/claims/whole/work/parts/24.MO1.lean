set_option maxRecDepth 100000 in
set_option maxHeartbeats 4000000 in
theorem sg_MO_thrown {p : Program} {l : Launch} {e : Env} {R : Room} {s : State} {mi : MethodId} {args : Array Value} {below : List Frame} {meth : Method} {co : Code} {D : va_G} {cB cI cL : ClassId} {w0 : va_W} {kr nr : Nat} {post : Outcome → va_W → Prop} (C : zx_C p s mi args co b_MO_thrown 1 R_MO zB D zcl (zt cB cI cL) (va_A w0 s.heap.size)) {ma tp rp dp wp op bp lp ep kp tn rn : Nat} {fl dn wn ba on bb bc cw cx cf : Int32} (hr9 : meth.sig.returnType = some .int) (hlk9 : meth.locks = false) (r4 : post (.returned (some (.int fl))) [(ma, .inr (5, [.int fl, .ref tp, .int (nI tn), .ref rp, .int (nI rn), .ref dp, .int dn, .ref wp, .int wn, .int ba, .ref op, .int on, .ref bp, .ref lp, .ref ep, .int bb, .int bc, .int cw, .int cx, .int cf, .ref kp]))]) : zx_At p l e R s mi args below meth co (zx_Q below s D zcl w0 kr nr R post) D zcl (va_A w0 s.heap.size) 1 [(0, .ref ma)] [(ma, .inr (5, [.int fl, .ref tp, .int (nI tn), .ref rp, .int (nI rn), .ref dp, .int dn, .ref wp, .int wn, .int ba, .ref op, .int on, .ref bp, .ref lp, .ref ep, .int bb, .int bc, .int cw, .int cx, .int cf, .ref kp]))] 0 0 0 [] := by
  refine zx_aload_n (pc := 0) C d_MO_thrown_0 rfl 0 rfl ?_
  refine zx_get (pc := 1) (ci := 5) (Cn := R_MO) (T := T_MO) (N := 21) (v := .int fl) C zu_MO 0 rfl rfl 0 (by decide) zw_703 rfl rfl d_MO_thrown_1 ?_
  exact zx_iret (pc := 4) C hr9 hlk9 (Nat.zero_le _) (Nat.zero_le _) d_MO_thrown_4 (r4)

theorem k_MO_thrown (l : Launch) (D : va_G) (cB cI cL : ClassId) (R : Room) (ma tp rp dp wp op bp lp ep kp tn rn : Nat) (fl dn wn ba on bb bc cw cx cf : Int32) : zx_K l zB D zcl (zt cB cI cL) y_MO_thrown b_MO_thrown 1 (some .int) [] 0 0 R [.ref ma] [(ma, .inr (5, [.int fl, .ref tp, .int (nI tn), .ref rp, .int (nI rn), .ref dp, .int dn, .ref wp, .int wn, .int ba, .ref op, .int on, .ref bp, .ref lp, .ref ep, .int bb, .int bc, .int cw, .int cx, .int cf, .ref kp]))] (fun o w => o = .returned (some (.int fl)) ∧ w = [(ma, .inr (5, [.int fl, .ref tp, .int (nI tn), .ref rp, .int (nI rn), .ref dp, .int dn, .ref wp, .int wn, .int ba, .ref op, .int on, .ref bp, .ref lp, .ref ep, .int bb, .int bc, .int cw, .int cx, .int cf, .ref kp]))]) := by
  refine zx_K.mk (Nat.le_of_ble_eq_true rfl) (fun p e s mm below meth c9 C hr hlk ht hnm => ?_)
  exact sg_MO_thrown C hr hlk ⟨rfl, rfl⟩
set_option maxRecDepth 100000 in
set_option maxHeartbeats 4000000 in
theorem sg_MO_fail {p : Program} {l : Launch} {e : Env} {R : Room} {s : State} {mi : MethodId} {args : Array Value} {below : List Frame} {meth : Method} {co : Code} {D : va_G} {cB cI cL : ClassId} {w0 : va_W} {kr nr : Nat} {post : Outcome → va_W → Prop} (C : zx_C p s mi args co b_MO_fail 2 R_MO zB D zcl (zt cB cI cL) (va_A w0 s.heap.size)) {ma tp rp dp wp op bp lp ep kp tn rn : Nat} {fl dn wn ba on bb bc cw cx cf : Int32} {c9 : Int32} (hr9 : meth.sig.returnType = some .int) (hlk9 : meth.locks = false) (r6 : post (.returned (some (.int (0 : Int32)))) [(ma, .inr (5, [.int c9, .ref tp, .int (nI tn), .ref rp, .int (nI rn), .ref dp, .int dn, .ref wp, .int wn, .int ba, .ref op, .int on, .ref bp, .ref lp, .ref ep, .int bb, .int bc, .int cw, .int cx, .int cf, .ref kp]))]) : zx_At p l e R s mi args below meth co (zx_Q below s D zcl w0 kr nr R post) D zcl (va_A w0 s.heap.size) 2 [(0, .ref ma), (1, .int c9)] [(ma, .inr (5, [.int fl, .ref tp, .int (nI tn), .ref rp, .int (nI rn), .ref dp, .int dn, .ref wp, .int wn, .int ba, .ref op, .int on, .ref bp, .ref lp, .ref ep, .int bb, .int bc, .int cw, .int cx, .int cf, .ref kp]))] 0 0 0 [] := by
  refine zx_aload_n (pc := 0) C d_MO_fail_0 rfl 0 rfl ?_
  refine zx_iload_n (pc := 1) C d_MO_fail_1 rfl 1 rfl ?_
  refine zx_put (pc := 2) (ci := 5) (Cn := R_MO) (T := T_MO) (N := 21) (v := .int c9) (ty := .int) (ws' := [(ma, .inr (5, [.int c9, .ref tp, .int (nI tn), .ref rp, .int (nI rn), .ref dp, .int dn, .ref wp, .int wn, .int ba, .ref op, .int on, .ref bp, .ref lp, .ref ep, .int bb, .int bc, .int cw, .int cx, .int cf, .ref kp]))]) C zu_MO ty_MO tyk_MO nm_MO 0 rfl rfl 0 (by decide) zw_703 rfl rfl (by decide +kernel) rfl rfl (Nat.le_of_ble_eq_true rfl) rfl d_MO_fail_2 ?_
  refine zx_iconst (pc := 5) C d_MO_fail_5 (v := (0 : Int32)) (by decide) ?_
  exact zx_iret (pc := 6) C hr9 hlk9 (Nat.zero_le _) (Nat.zero_le _) d_MO_fail_6 (r6)

theorem k_MO_fail (l : Launch) (D : va_G) (cB cI cL : ClassId) (R : Room) (ma tp rp dp wp op bp lp ep kp tn rn : Nat) (fl dn wn ba on bb bc cw cx cf : Int32) (c8 : Int32) : zx_K l zB D zcl (zt cB cI cL) y_MO_fail b_MO_fail 2 (some .int) [] 0 0 R [.ref ma, .int c8] [(ma, .inr (5, [.int fl, .ref tp, .int (nI tn), .ref rp, .int (nI rn), .ref dp, .int dn, .ref wp, .int wn, .int ba, .ref op, .int on, .ref bp, .ref lp, .ref ep, .int bb, .int bc, .int cw, .int cx, .int cf, .ref kp]))] (fun o w => o = .returned (some (.int 0)) ∧ w = [(ma, .inr (5, [.int c8, .ref tp, .int (nI tn), .ref rp, .int (nI rn), .ref dp, .int dn, .ref wp, .int wn, .int ba, .ref op, .int on, .ref bp, .ref lp, .ref ep, .int bb, .int bc, .int cw, .int cx, .int cf, .ref kp]))]) := by
  refine zx_K.mk (Nat.le_of_ble_eq_true rfl) (fun p e s mm below meth c9 C hr hlk ht hnm => ?_)
  exact sg_MO_fail C hr hlk ⟨rfl, rfl⟩
set_option maxRecDepth 100000 in
set_option maxHeartbeats 4000000 in
theorem sg_MO_can {p : Program} {l : Launch} {e : Env} {s : State} {mi : MethodId} {args : Array Value} {below : List Frame} {meth : Method} {co : Code} {D : va_G} {cB cI cL : ClassId} {w0 : va_W} {kr nr : Nat} {post : Outcome → va_W → Prop} (C : zx_C p s mi args co b_MO_can 2 R_MO zB D zcl (zt cB cI cL) (va_A w0 s.heap.size)) {ma : Nat} {g9 : Int32} (hr9 : meth.sig.returnType = none) (hlk9 : meth.locks = false) (hl9 : l.stackTraces = false) (ht9 : co.exceptionTable.toList.map (fun h => (h.startPc, h.endPc, h.handlerPc, h.catchType)) = []) (r12 : (¬ g9 = 0) → post (.returned none) []) (t4 : (g9 = 0) → ∀ x9 : Nat, post (.threw x9) [(x9, .inr (7, []))]) : zx_At p l e (zr 8 1 6) s mi args below meth co (zx_Q below s D zcl w0 kr nr (zr 8 1 6) post) D zcl (va_A w0 s.heap.size) 2 [(0, .ref ma), (1, .int g9)] [] 0 0 0 [] := by
  refine zx_iload_n (pc := 0) C d_MO_can_0 rfl 1 rfl ?_
  refine zx_if_ne (pc := 1) C 12 d_MO_can_1 (by decide) (fun c1 => ?_) (fun c1 => ?_)
  · exact zx_vret (pc := 12) C hr9 hlk9 (Nat.zero_le _) (Nat.zero_le _) d_MO_can_12 (r12 c1)
  · exact zx_throw0 (pc := 4) (names := zex) (ci := 7) C hl9 (by decide +kernel) zex_fit zw_775 zw_13 zh_MO_46 rfl hlk9 (zx_noTab ht9 _) d_MO_can_4 d_MO_can_7 d_MO_can_8 d_MO_can_11 (Nat.le_of_ble_eq_true rfl) (Nat.le_of_ble_eq_true rfl) (Nat.le_of_ble_eq_true rfl) (Nat.le_of_ble_eq_true rfl) (t4 c1)

theorem k_MO_can (l : Launch) (D : va_G) (cB cI cL : ClassId) (hl : l.stackTraces = false) (ma : Nat) (g9 : Int32) : zx_K l zB D zcl (zt cB cI cL) y_MO_can b_MO_can 2 (none) [] 0 0 (zr 8 1 6) [.ref ma, .int g9] [] (fun o w => ((g9 = 0) ∧ ∃ x0 : Nat, o = .threw x0 ∧ w = [(x0, .inr (7, []))]) ∨ (¬ (g9 = 0) ∧ o = .returned none ∧ w = [])) := by
  refine zx_K.mk (Nat.le_of_ble_eq_true rfl) (fun p e s mm below meth c9 C hr hlk ht hnm => ?_)
  exact sg_MO_can C hr hlk hl ht (fun h => Or.inr ⟨h, rfl, rfl⟩) (fun h x0 => Or.inl ⟨h, x0, rfl, rfl⟩)
set_option maxRecDepth 100000 in
set_option maxHeartbeats 4000000 in
theorem sg_MO_end {p : Program} {l : Launch} {e : Env} {s : State} {mi : MethodId} {args : Array Value} {below : List Frame} {meth : Method} {co : Code} {D : va_G} {cB cI cL : ClassId} {w0 : va_W} {kr nr : Nat} {post : Outcome → va_W → Prop} (C : zx_C p s mi args co b_MO_end 2 R_MO zB D zcl (zt cB cI cL) (va_A w0 s.heap.size)) {ma tp rp dp wp op bp lp ep kp tn rn : Nat} {fl dn wn ba on bb bc cw cx cf : Int32} {i9 : Int32} (hr9 : meth.sig.returnType = some .int) (hlk9 : meth.locks = false) (r22 : (i9 < 0) → post (.returned (some (.int (0 : Int32)))) [(ma, .inr (5, [.int (1 : Int32), .ref tp, .int (nI tn), .ref rp, .int (nI rn), .ref dp, .int dn, .ref wp, .int wn, .int ba, .ref op, .int on, .ref bp, .ref lp, .ref ep, .int bb, .int bc, .int cw, .int cx, .int cf, .ref kp]))]) (r29 : (¬ i9 < 0) → (i9 ≤ (nI tn)) → post (.returned (some (.int i9))) [(ma, .inr (5, [.int (0 : Int32), .ref tp, .int i9, .ref rp, .int (nI rn), .ref dp, .int dn, .ref wp, .int wn, .int ba, .ref op, .int on, .ref bp, .ref lp, .ref ep, .int bb, .int bc, .int cw, .int cx, .int cf, .ref kp]))]) (r22_2 : (¬ i9 < 0) → (¬ i9 ≤ (nI tn)) → post (.returned (some (.int (0 : Int32)))) [(ma, .inr (5, [.int (1 : Int32), .ref tp, .int (nI tn), .ref rp, .int (nI rn), .ref dp, .int dn, .ref wp, .int wn, .int ba, .ref op, .int on, .ref bp, .ref lp, .ref ep, .int bb, .int bc, .int cw, .int cx, .int cf, .ref kp]))]) : zx_At p l e (zr 1 0 0) s mi args below meth co (zx_Q below s D zcl w0 kr nr (zr 1 0 0) post) D zcl (va_A w0 s.heap.size) 2 [(0, .ref ma), (1, .int i9)] [(ma, .inr (5, [.int fl, .ref tp, .int (nI tn), .ref rp, .int (nI rn), .ref dp, .int dn, .ref wp, .int wn, .int ba, .ref op, .int on, .ref bp, .ref lp, .ref ep, .int bb, .int bc, .int cw, .int cx, .int cf, .ref kp]))] 0 0 0 [] := by
  refine zx_aload_n (pc := 0) C d_MO_end_0 rfl 0 rfl ?_
  refine zx_iconst (pc := 1) C d_MO_end_1 (v := (0 : Int32)) (by decide) ?_
  refine zx_put (pc := 2) (ci := 5) (Cn := R_MO) (T := T_MO) (N := 21) (v := .int (0 : Int32)) (ty := .int) (ws' := [(ma, .inr (5, [.int (0 : Int32), .ref tp, .int (nI tn), .ref rp, .int (nI rn), .ref dp, .int dn, .ref wp, .int wn, .int ba, .ref op, .int on, .ref bp, .ref lp, .ref ep, .int bb, .int bc, .int cw, .int cx, .int cf, .ref kp]))]) C zu_MO ty_MO tyk_MO nm_MO 0 rfl rfl 0 (by decide) zw_703 rfl rfl (by decide +kernel) rfl rfl (Nat.le_of_ble_eq_true rfl) rfl d_MO_end_2 ?_
  refine zx_iload_n (pc := 5) C d_MO_end_5 rfl 1 rfl ?_
  refine zx_if_lt (pc := 6) C 17 d_MO_end_6 (by decide) (fun c6 => ?_) (fun c6 => ?_)
  · refine zx_aload_n (pc := 17) C d_MO_end_17 rfl 0 rfl ?_
    refine zx_iconst (pc := 18) C d_MO_end_18 (v := (1 : Int32)) (by decide) ?_
    refine zx_callV (pc := 19) (ix := 109) (As := [.int (1 : Int32)]) (b := ma) (q0 := 0) (wr := []) (st := []) C (zx_cw.of (C.w zw_780)) (by decide +kernel) ⟨by decide +kernel, by decide +kernel⟩ zw_779 zs_MO_fail zw_777 rfl rfl rfl rfl rfl (k_MO_fail l D cB cI cL (zr 0 0 0) ma tp rp dp wp op bp lp ep kp tn rn (0 : Int32) dn wn ba on bb bc cw cx cf (1 : Int32)) rfl [0] [] rfl rfl (by decide) (by decide) (by decide) (Nat.le_of_ble_eq_true rfl) (Nat.le_of_ble_eq_true rfl) (Nat.le_of_ble_eq_true rfl) (Nat.le_of_ble_eq_true rfl) d_MO_end_19 (fun o w1 hp => ?_)
    obtain ⟨rfl, rfl⟩ := hp
    refine zx_ri (k2 := 0) (n2 := 0) rfl rfl ?_
    refine zx_ws (ws' := [(ma, .inr (5, [.int (1 : Int32), .ref tp, .int (nI tn), .ref rp, .int (nI rn), .ref dp, .int dn, .ref wp, .int wn, .int ba, .ref op, .int on, .ref bp, .ref lp, .ref ep, .int bb, .int bc, .int cw, .int cx, .int cf, .ref kp]))]) [0] (by decide) rfl ?_
    exact zx_iret (pc := 22) C hr9 hlk9 (Nat.zero_le _) (Nat.zero_le _) d_MO_end_22 (r22 c6)
  · refine zx_iload_n (pc := 9) C d_MO_end_9 rfl 1 rfl ?_
    refine zx_aload_n (pc := 10) C d_MO_end_10 rfl 0 rfl ?_
    refine zx_get (pc := 11) (ci := 5) (Cn := R_MO) (T := T_MO) (N := 21) (v := .int (nI tn)) C zu_MO 0 rfl rfl 2 (by decide) zw_705 rfl rfl d_MO_end_11 ?_
    refine zx_icmp_le (pc := 14) C 23 d_MO_end_14 (by decide) (fun c14 => ?_) (fun c14 => ?_)
    · refine zx_aload_n (pc := 23) C d_MO_end_23 rfl 0 rfl ?_
      refine zx_iload_n (pc := 24) C d_MO_end_24 rfl 1 rfl ?_
      refine zx_put (pc := 25) (ci := 5) (Cn := R_MO) (T := T_MO) (N := 21) (v := .int i9) (ty := .int) (ws' := [(ma, .inr (5, [.int (0 : Int32), .ref tp, .int i9, .ref rp, .int (nI rn), .ref dp, .int dn, .ref wp, .int wn, .int ba, .ref op, .int on, .ref bp, .ref lp, .ref ep, .int bb, .int bc, .int cw, .int cx, .int cf, .ref kp]))]) C zu_MO ty_MO tyk_MO nm_MO 0 rfl rfl 2 (by decide) zw_705 rfl rfl (by decide +kernel) rfl rfl (Nat.le_of_ble_eq_true rfl) rfl d_MO_end_25 ?_
      refine zx_iload_n (pc := 28) C d_MO_end_28 rfl 1 rfl ?_
      exact zx_iret (pc := 29) C hr9 hlk9 (Nat.zero_le _) (Nat.zero_le _) d_MO_end_29 (r29 c6 c14)
    · refine zx_aload_n (pc := 17) C d_MO_end_17 rfl 0 rfl ?_
      refine zx_iconst (pc := 18) C d_MO_end_18 (v := (1 : Int32)) (by decide) ?_
      refine zx_callV (pc := 19) (ix := 109) (As := [.int (1 : Int32)]) (b := ma) (q0 := 0) (wr := []) (st := []) C (zx_cw.of (C.w zw_780)) (by decide +kernel) ⟨by decide +kernel, by decide +kernel⟩ zw_779 zs_MO_fail zw_777 rfl rfl rfl rfl rfl (k_MO_fail l D cB cI cL (zr 0 0 0) ma tp rp dp wp op bp lp ep kp tn rn (0 : Int32) dn wn ba on bb bc cw cx cf (1 : Int32)) rfl [0] [] rfl rfl (by decide) (by decide) (by decide) (Nat.le_of_ble_eq_true rfl) (Nat.le_of_ble_eq_true rfl) (Nat.le_of_ble_eq_true rfl) (Nat.le_of_ble_eq_true rfl) d_MO_end_19 (fun o w1 hp => ?_)
      obtain ⟨rfl, rfl⟩ := hp
      refine zx_ri (k2 := 0) (n2 := 0) rfl rfl ?_
      refine zx_ws (ws' := [(ma, .inr (5, [.int (1 : Int32), .ref tp, .int (nI tn), .ref rp, .int (nI rn), .ref dp, .int dn, .ref wp, .int wn, .int ba, .ref op, .int on, .ref bp, .ref lp, .ref ep, .int bb, .int bc, .int cw, .int cx, .int cf, .ref kp]))]) [0] (by decide) rfl ?_
      exact zx_iret (pc := 22) C hr9 hlk9 (Nat.zero_le _) (Nat.zero_le _) d_MO_end_22 (r22_2 c6 c14)

theorem k_MO_end (l : Launch) (D : va_G) (cB cI cL : ClassId) (ma tp rp dp wp op bp lp ep kp tn rn : Nat) (fl dn wn ba on bb bc cw cx cf : Int32) (i9 : Int32) : zx_K l zB D zcl (zt cB cI cL) y_MO_end b_MO_end 2 (some .int) [] 0 0 (zr 1 0 0) [.ref ma, .int i9] [(ma, .inr (5, [.int fl, .ref tp, .int (nI tn), .ref rp, .int (nI rn), .ref dp, .int dn, .ref wp, .int wn, .int ba, .ref op, .int on, .ref bp, .ref lp, .ref ep, .int bb, .int bc, .int cw, .int cx, .int cf, .ref kp]))] (fun o w => ((i9 < 0 ∨ nI tn < i9) ∧ o = .returned (some (.int 0)) ∧ w = [(ma, .inr (5, [.int 1, .ref tp, .int (nI tn), .ref rp, .int (nI rn), .ref dp, .int dn, .ref wp, .int wn, .int ba, .ref op, .int on, .ref bp, .ref lp, .ref ep, .int bb, .int bc, .int cw, .int cx, .int cf, .ref kp]))]) ∨ (¬ (i9 < 0 ∨ nI tn < i9) ∧ o = .returned (some (.int i9)) ∧ w = [(ma, .inr (5, [.int 0, .ref tp, .int i9, .ref rp, .int (nI rn), .ref dp, .int dn, .ref wp, .int wn, .int ba, .ref op, .int on, .ref bp, .ref lp, .ref ep, .int bb, .int bc, .int cw, .int cx, .int cf, .ref kp]))])) := by
  refine zx_K.mk (Nat.le_of_ble_eq_true rfl) (fun p e s mm below meth c9 C hr hlk ht hnm => ?_)
  refine sg_MO_end C hr hlk (fun h => Or.inl ⟨Or.inl h, rfl, rfl⟩) (fun h1 h2 => Or.inr ⟨?_, rfl, rfl⟩) (fun h1 h2 => Or.inl ⟨Or.inr (zi_nle.mp h2), rfl, rfl⟩)
  intro h
  rcases h with h | h
  · exact h1 h
  · exact zi_nle.mpr h h2
set_option maxRecDepth 100000 in
set_option maxHeartbeats 4000000 in
theorem sg_MO_count {p : Program} {l : Launch} {e : Env} {s : State} {mi : MethodId} {args : Array Value} {below : List Frame} {meth : Method} {co : Code} {D : va_G} {cB cI cL : ClassId} {w0 : va_W} {kr nr : Nat} {post : Outcome → va_W → Prop} (C : zx_C p s mi args co b_MO_count 2 R_MO zB D zcl (zt cB cI cL) (va_A w0 s.heap.size)) {ma tp rp dp wp op bp lp ep kp tn rn : Nat} {fl dn wn ba on bb bc cw cx cf : Int32} {i9 : Int32} (hr9 : meth.sig.returnType = some .int) (hlk9 : meth.locks = false) (r37 : (i9 < 0) → post (.returned (some (.int (0 : Int32)))) [(ma, .inr (5, [.int (1 : Int32), .ref tp, .int (nI tn), .ref rp, .int (nI rn), .ref dp, .int dn, .ref wp, .int wn, .int ba, .ref op, .int on, .ref bp, .ref lp, .ref ep, .int bb, .int bc, .int cw, .int cx, .int cf, .ref kp]))]) (r37_2 : (¬ i9 < 0) → (i9 ≤ (1 : Int32)) → (¬ i9 = 0) → post (.returned (some (.int (nI rn)))) [(ma, .inr (5, [.int (0 : Int32), .ref tp, .int (nI tn), .ref rp, .int (nI rn), .ref dp, .int dn, .ref wp, .int wn, .int ba, .ref op, .int on, .ref bp, .ref lp, .ref ep, .int bb, .int bc, .int cw, .int cx, .int cf, .ref kp]))]) (r37_3 : (¬ i9 < 0) → (i9 ≤ (1 : Int32)) → (i9 = 0) → post (.returned (some (.int (nI tn)))) [(ma, .inr (5, [.int (0 : Int32), .ref tp, .int (nI tn), .ref rp, .int (nI rn), .ref dp, .int dn, .ref wp, .int wn, .int ba, .ref op, .int on, .ref bp, .ref lp, .ref ep, .int bb, .int bc, .int cw, .int cx, .int cf, .ref kp]))]) (r37_4 : (¬ i9 < 0) → (¬ i9 ≤ (1 : Int32)) → post (.returned (some (.int (0 : Int32)))) [(ma, .inr (5, [.int (1 : Int32), .ref tp, .int (nI tn), .ref rp, .int (nI rn), .ref dp, .int dn, .ref wp, .int wn, .int ba, .ref op, .int on, .ref bp, .ref lp, .ref ep, .int bb, .int bc, .int cw, .int cx, .int cf, .ref kp]))]) : zx_At p l e (zr 1 0 0) s mi args below meth co (zx_Q below s D zcl w0 kr nr (zr 1 0 0) post) D zcl (va_A w0 s.heap.size) 2 [(0, .ref ma), (1, .int i9)] [(ma, .inr (5, [.int fl, .ref tp, .int (nI tn), .ref rp, .int (nI rn), .ref dp, .int dn, .ref wp, .int wn, .int ba, .ref op, .int on, .ref bp, .ref lp, .ref ep, .int bb, .int bc, .int cw, .int cx, .int cf, .ref kp]))] 0 0 0 [] := by
  refine zx_aload_n (pc := 0) C d_MO_count_0 rfl 0 rfl ?_
  refine zx_iconst (pc := 1) C d_MO_count_1 (v := (0 : Int32)) (by decide) ?_
  refine zx_put (pc := 2) (ci := 5) (Cn := R_MO) (T := T_MO) (N := 21) (v := .int (0 : Int32)) (ty := .int) (ws' := [(ma, .inr (5, [.int (0 : Int32), .ref tp, .int (nI tn), .ref rp, .int (nI rn), .ref dp, .int dn, .ref wp, .int wn, .int ba, .ref op, .int on, .ref bp, .ref lp, .ref ep, .int bb, .int bc, .int cw, .int cx, .int cf, .ref kp]))]) C zu_MO ty_MO tyk_MO nm_MO 0 rfl rfl 0 (by decide) zw_703 rfl rfl (by decide +kernel) rfl rfl (Nat.le_of_ble_eq_true rfl) rfl d_MO_count_2 ?_
  refine zx_iload_n (pc := 5) C d_MO_count_5 rfl 1 rfl ?_
  refine zx_if_lt (pc := 6) C 14 d_MO_count_6 (by decide) (fun c6 => ?_) (fun c6 => ?_)
  · refine zx_aload_n (pc := 14) C d_MO_count_14 rfl 0 rfl ?_
    refine zx_iconst (pc := 15) C d_MO_count_15 (v := (1 : Int32)) (by decide) ?_
    refine zx_callV (pc := 16) (ix := 109) (As := [.int (1 : Int32)]) (b := ma) (q0 := 0) (wr := []) (st := []) C (zx_cw.of (C.w zw_780)) (by decide +kernel) ⟨by decide +kernel, by decide +kernel⟩ zw_779 zs_MO_fail zw_777 rfl rfl rfl rfl rfl (k_MO_fail l D cB cI cL (zr 0 0 0) ma tp rp dp wp op bp lp ep kp tn rn (0 : Int32) dn wn ba on bb bc cw cx cf (1 : Int32)) rfl [0] [] rfl rfl (by decide) (by decide) (by decide) (Nat.le_of_ble_eq_true rfl) (Nat.le_of_ble_eq_true rfl) (Nat.le_of_ble_eq_true rfl) (Nat.le_of_ble_eq_true rfl) d_MO_count_16 (fun o w1 hp => ?_)
    obtain ⟨rfl, rfl⟩ := hp
    refine zx_ri (k2 := 0) (n2 := 0) rfl rfl ?_
    refine zx_ws (ws' := [(ma, .inr (5, [.int (1 : Int32), .ref tp, .int (nI tn), .ref rp, .int (nI rn), .ref dp, .int dn, .ref wp, .int wn, .int ba, .ref op, .int on, .ref bp, .ref lp, .ref ep, .int bb, .int bc, .int cw, .int cx, .int cf, .ref kp]))]) [0] (by decide) rfl ?_
    refine zx_goto (pc := 19) C 37 d_MO_count_19 (by decide) ?_
    exact zx_iret (pc := 37) C hr9 hlk9 (Nat.zero_le _) (Nat.zero_le _) d_MO_count_37 (r37 c6)
  · refine zx_iload_n (pc := 9) C d_MO_count_9 rfl 1 rfl ?_
    refine zx_iconst (pc := 10) C d_MO_count_10 (v := (1 : Int32)) (by decide) ?_
    refine zx_icmp_le (pc := 11) C 22 d_MO_count_11 (by decide) (fun c11 => ?_) (fun c11 => ?_)
    · refine zx_iload_n (pc := 22) C d_MO_count_22 rfl 1 rfl ?_
      refine zx_if_ne (pc := 23) C 33 d_MO_count_23 (by decide) (fun c23 => ?_) (fun c23 => ?_)
      · refine zx_aload_n (pc := 33) C d_MO_count_33 rfl 0 rfl ?_
        refine zx_get (pc := 34) (ci := 5) (Cn := R_MO) (T := T_MO) (N := 21) (v := .int (nI rn)) C zu_MO 0 rfl rfl 4 (by decide) zw_707 rfl rfl d_MO_count_34 ?_
        exact zx_iret (pc := 37) C hr9 hlk9 (Nat.zero_le _) (Nat.zero_le _) d_MO_count_37 (r37_2 c6 c11 c23)
      · refine zx_aload_n (pc := 26) C d_MO_count_26 rfl 0 rfl ?_
        refine zx_get (pc := 27) (ci := 5) (Cn := R_MO) (T := T_MO) (N := 21) (v := .int (nI tn)) C zu_MO 0 rfl rfl 2 (by decide) zw_705 rfl rfl d_MO_count_27 ?_
        refine zx_goto (pc := 30) C 37 d_MO_count_30 (by decide) ?_
        exact zx_iret (pc := 37) C hr9 hlk9 (Nat.zero_le _) (Nat.zero_le _) d_MO_count_37 (r37_3 c6 c11 c23)
    · refine zx_aload_n (pc := 14) C d_MO_count_14 rfl 0 rfl ?_
      refine zx_iconst (pc := 15) C d_MO_count_15 (v := (1 : Int32)) (by decide) ?_
      refine zx_callV (pc := 16) (ix := 109) (As := [.int (1 : Int32)]) (b := ma) (q0 := 0) (wr := []) (st := []) C (zx_cw.of (C.w zw_780)) (by decide +kernel) ⟨by decide +kernel, by decide +kernel⟩ zw_779 zs_MO_fail zw_777 rfl rfl rfl rfl rfl (k_MO_fail l D cB cI cL (zr 0 0 0) ma tp rp dp wp op bp lp ep kp tn rn (0 : Int32) dn wn ba on bb bc cw cx cf (1 : Int32)) rfl [0] [] rfl rfl (by decide) (by decide) (by decide) (Nat.le_of_ble_eq_true rfl) (Nat.le_of_ble_eq_true rfl) (Nat.le_of_ble_eq_true rfl) (Nat.le_of_ble_eq_true rfl) d_MO_count_16 (fun o w1 hp => ?_)
      obtain ⟨rfl, rfl⟩ := hp
      refine zx_ri (k2 := 0) (n2 := 0) rfl rfl ?_
      refine zx_ws (ws' := [(ma, .inr (5, [.int (1 : Int32), .ref tp, .int (nI tn), .ref rp, .int (nI rn), .ref dp, .int dn, .ref wp, .int wn, .int ba, .ref op, .int on, .ref bp, .ref lp, .ref ep, .int bb, .int bc, .int cw, .int cx, .int cf, .ref kp]))]) [0] (by decide) rfl ?_
      refine zx_goto (pc := 19) C 37 d_MO_count_19 (by decide) ?_
      exact zx_iret (pc := 37) C hr9 hlk9 (Nat.zero_le _) (Nat.zero_le _) d_MO_count_37 (r37_4 c6 c11)

theorem k_MO_count (l : Launch) (D : va_G) (cB cI cL : ClassId) (ma tp rp dp wp op bp lp ep kp tn rn : Nat) (fl dn wn ba on bb bc cw cx cf : Int32) (i9 : Int32) : zx_K l zB D zcl (zt cB cI cL) y_MO_count b_MO_count 2 (some .int) [] 0 0 (zr 1 0 0) [.ref ma, .int i9] [(ma, .inr (5, [.int fl, .ref tp, .int (nI tn), .ref rp, .int (nI rn), .ref dp, .int dn, .ref wp, .int wn, .int ba, .ref op, .int on, .ref bp, .ref lp, .ref ep, .int bb, .int bc, .int cw, .int cx, .int cf, .ref kp]))] (fun o w => ((i9 < 0 ∨ 1 < i9) ∧ o = .returned (some (.int 0)) ∧ w = [(ma, .inr (5, [.int 1, .ref tp, .int (nI tn), .ref rp, .int (nI rn), .ref dp, .int dn, .ref wp, .int wn, .int ba, .ref op, .int on, .ref bp, .ref lp, .ref ep, .int bb, .int bc, .int cw, .int cx, .int cf, .ref kp]))]) ∨ (¬ (i9 < 0 ∨ 1 < i9) ∧ o = .returned (some (.int (if i9 = 0 then nI tn else nI rn))) ∧ w = [(ma, .inr (5, [.int 0, .ref tp, .int (nI tn), .ref rp, .int (nI rn), .ref dp, .int dn, .ref wp, .int wn, .int ba, .ref op, .int on, .ref bp, .ref lp, .ref ep, .int bb, .int bc, .int cw, .int cx, .int cf, .ref kp]))])) := by
  refine zx_K.mk (Nat.le_of_ble_eq_true rfl) (fun p e s mm below meth c9 C hr hlk ht hnm => ?_)
  refine sg_MO_count C hr hlk (fun h => Or.inl ⟨Or.inl h, rfl, rfl⟩) (fun h1 h2 h3 => Or.inr ⟨?_, by rw [if_neg h3], rfl⟩) (fun h1 h2 h3 => Or.inr ⟨?_, by rw [if_pos h3], rfl⟩) (fun h1 h2 => Or.inl ⟨Or.inr (zi_nle.mp h2), rfl, rfl⟩)
  · intro h
    rcases h with h | h
    · exact h1 h
    · exact zi_nle.mpr h h2
  · intro h
    rcases h with h | h
    · exact h1 h
    · exact zi_nle.mpr h h2
set_option maxRecDepth 100000 in
set_option maxHeartbeats 4000000 in
theorem sg_MO_mask0 {p : Program} {l : Launch} {e : Env} {R : Room} {s : State} {mi : MethodId} {args : Array Value} {below : List Frame} {meth : Method} {co : Code} {D : va_G} {cB cI cL : ClassId} {w0 : va_W} {kr nr : Nat} {post : Outcome → va_W → Prop} (C : zx_C p s mi args co b_MO_mask 3 R_MO zB D zcl (zt cB cI cL) (va_A w0 s.heap.size)) {ma tp rp dp wp op bp lp ep kp tn rn : Nat} {fl dn wn ba on bb bc cw cx cf : Int32} {m9 : Int32} {f : Nat → Int32} (hr9 : meth.sig.returnType = none) (hlk9 : meth.locks = false) (r59 : (m9 < (2 : Int32)) → post (.returned none) [(ma, .inr (5, [.int (1 : Int32), .ref tp, .int (nI tn), .ref rp, .int (nI rn), .ref dp, .int dn, .ref wp, .int wn, .int ba, .ref op, .int on, .ref bp, .ref lp, .ref ep, .int bb, .int bc, .int cw, .int cx, .int cf, .ref kp])), (tp, .inl (cB, 16384, .inl f))]) (k26 : (¬ m9 < (2 : Int32)) → (m9 ≤ (8 : Int32)) → zx_At p l e R s mi args below meth co (zx_Q below s D zcl w0 kr nr R post) D zcl (va_A w0 s.heap.size) 3 [(0, .ref ma), (1, .int m9), (2, .int (0 : Int32))] [(ma, .inr (5, [.int (0 : Int32), .ref tp, .int (nI tn), .ref rp, .int (nI rn), .ref dp, .int dn, .ref wp, .int wn, .int ba, .ref op, .int on, .ref bp, .ref lp, .ref ep, .int bb, .int bc, .int cw, .int cx, .int cf, .ref kp])), (tp, .inl (cB, 16384, .inl f))] 0 0 26 []) (r59_2 : (¬ m9 < (2 : Int32)) → (¬ m9 ≤ (8 : Int32)) → post (.returned none) [(ma, .inr (5, [.int (1 : Int32), .ref tp, .int (nI tn), .ref rp, .int (nI rn), .ref dp, .int dn, .ref wp, .int wn, .int ba, .ref op, .int on, .ref bp, .ref lp, .ref ep, .int bb, .int bc, .int cw, .int cx, .int cf, .ref kp])), (tp, .inl (cB, 16384, .inl f))]) : zx_At p l e R s mi args below meth co (zx_Q below s D zcl w0 kr nr R post) D zcl (va_A w0 s.heap.size) 3 [(0, .ref ma), (1, .int m9)] [(ma, .inr (5, [.int fl, .ref tp, .int (nI tn), .ref rp, .int (nI rn), .ref dp, .int dn, .ref wp, .int wn, .int ba, .ref op, .int on, .ref bp, .ref lp, .ref ep, .int bb, .int bc, .int cw, .int cx, .int cf, .ref kp])), (tp, .inl (cB, 16384, .inl f))] 0 0 0 [] := by
  refine zx_aload_n (pc := 0) C d_MO_mask_0 rfl 0 rfl ?_
  refine zx_iconst (pc := 1) C d_MO_mask_1 (v := (0 : Int32)) (by decide) ?_
  refine zx_put (pc := 2) (ci := 5) (Cn := R_MO) (T := T_MO) (N := 21) (v := .int (0 : Int32)) (ty := .int) (ws' := [(ma, .inr (5, [.int (0 : Int32), .ref tp, .int (nI tn), .ref rp, .int (nI rn), .ref dp, .int dn, .ref wp, .int wn, .int ba, .ref op, .int on, .ref bp, .ref lp, .ref ep, .int bb, .int bc, .int cw, .int cx, .int cf, .ref kp])), (tp, .inl (cB, 16384, .inl f))]) C zu_MO ty_MO tyk_MO nm_MO 0 rfl rfl 0 (by decide) zw_703 rfl rfl (by decide +kernel) rfl rfl (Nat.le_of_ble_eq_true rfl) rfl d_MO_mask_2 ?_
  refine zx_iload_n (pc := 5) C d_MO_mask_5 rfl 1 rfl ?_
  refine zx_iconst (pc := 6) C d_MO_mask_6 (v := (2 : Int32)) (by decide) ?_
  refine zx_icmp_lt (pc := 7) C 16 d_MO_mask_7 (by decide) (fun c7 => ?_) (fun c7 => ?_)
  · refine zx_aload_n (pc := 16) C d_MO_mask_16 rfl 0 rfl ?_
    refine zx_iconst (pc := 17) C d_MO_mask_17 (v := (1 : Int32)) (by decide) ?_
    refine zx_put (pc := 18) (ci := 5) (Cn := R_MO) (T := T_MO) (N := 21) (v := .int (1 : Int32)) (ty := .int) (ws' := [(ma, .inr (5, [.int (1 : Int32), .ref tp, .int (nI tn), .ref rp, .int (nI rn), .ref dp, .int dn, .ref wp, .int wn, .int ba, .ref op, .int on, .ref bp, .ref lp, .ref ep, .int bb, .int bc, .int cw, .int cx, .int cf, .ref kp])), (tp, .inl (cB, 16384, .inl f))]) C zu_MO ty_MO tyk_MO nm_MO 0 rfl rfl 0 (by decide) zw_703 rfl rfl (by decide +kernel) rfl rfl (Nat.le_of_ble_eq_true rfl) rfl d_MO_mask_18 ?_
    refine zx_goto (pc := 21) C 59 d_MO_mask_21 (by decide) ?_
    exact zx_vret (pc := 59) C hr9 hlk9 (Nat.zero_le _) (Nat.zero_le _) d_MO_mask_59 (r59 c7)
  · refine zx_iload_n (pc := 10) C d_MO_mask_10 rfl 1 rfl ?_
    refine zx_bipush (pc := 11) C d_MO_mask_11 (v := (8 : Int32)) (by decide) ?_
    refine zx_icmp_le (pc := 13) C 24 d_MO_mask_13 (by decide) (fun c13 => ?_) (fun c13 => ?_)
    · refine zx_iconst (pc := 24) C d_MO_mask_24 (v := (0 : Int32)) (by decide) ?_
      refine zx_istore_n (pc := 25) C d_MO_mask_25 rfl (by decide) (lv' := [(2, .int (0 : Int32)), (0, .ref ma), (1, .int m9)]) rfl ?_
      refine zx_lv (lv' := [(0, .ref ma), (1, .int m9), (2, .int (0 : Int32))]) [1, 2, 0] rfl ?_
      exact k26 c7 c13
    · refine zx_aload_n (pc := 16) C d_MO_mask_16 rfl 0 rfl ?_
      refine zx_iconst (pc := 17) C d_MO_mask_17 (v := (1 : Int32)) (by decide) ?_
      refine zx_put (pc := 18) (ci := 5) (Cn := R_MO) (T := T_MO) (N := 21) (v := .int (1 : Int32)) (ty := .int) (ws' := [(ma, .inr (5, [.int (1 : Int32), .ref tp, .int (nI tn), .ref rp, .int (nI rn), .ref dp, .int dn, .ref wp, .int wn, .int ba, .ref op, .int on, .ref bp, .ref lp, .ref ep, .int bb, .int bc, .int cw, .int cx, .int cf, .ref kp])), (tp, .inl (cB, 16384, .inl f))]) C zu_MO ty_MO tyk_MO nm_MO 0 rfl rfl 0 (by decide) zw_703 rfl rfl (by decide +kernel) rfl rfl (Nat.le_of_ble_eq_true rfl) rfl d_MO_mask_18 ?_
      refine zx_goto (pc := 21) C 59 d_MO_mask_21 (by decide) ?_
      exact zx_vret (pc := 59) C hr9 hlk9 (Nat.zero_le _) (Nat.zero_le _) d_MO_mask_59 (r59_2 c7 c13)

set_option maxRecDepth 100000 in
set_option maxHeartbeats 4000000 in
theorem sg_MO_mask26 {p : Program} {l : Launch} {e : Env} {R : Room} {s : State} {mi : MethodId} {args : Array Value} {below : List Frame} {meth : Method} {co : Code} {D : va_G} {cB cI cL : ClassId} {w0 : va_W} {kr nr : Nat} {post : Outcome → va_W → Prop} (C : zx_C p s mi args co b_MO_mask 3 R_MO zB D zcl (zt cB cI cL) (va_A w0 s.heap.size)) {ma tp rp dp wp op bp lp ep kp tn rn  : Nat} {dn wn ba on bb bc cw cx cf : Int32} {m i : Nat} {f : Nat → Int32} (hr9 : meth.sig.returnType = none) (hlk9 : meth.locks = false) (r59 : ((nI tn) ≤ (nI i)) → post (.returned none) [(ma, .inr (5, [.int (0 : Int32), .ref tp, .int (nI tn), .ref rp, .int (nI rn), .ref dp, .int dn, .ref wp, .int wn, .int ba, .ref op, .int on, .ref bp, .ref lp, .ref ep, .int bb, .int bc, .int cw, .int cx, .int cf, .ref kp])), (tp, .inl (cB, 16384, .inl f))]) (b44 : (¬ (nI tn) ≤ (nI i)) → (nI i) = nI i ∧ i < 16384) (e47 : (¬ (nI tn) ≤ (nI i)) → ((1 : Int32) <<< ((nI m) &&& 31)) = (nI (2 ^ m))) (e49 : (¬ (nI tn) ≤ (nI i)) → ((nI (2 ^ m)) - (1 : Int32)) = (nI (2 ^ m - 1))) (b52 : (¬ (nI tn) ≤ (nI i)) → (nI i) = nI i ∧ i < 16384) (e53 : (¬ (nI tn) ≤ (nI i)) → (nI i) + (1 : Int32) = (nI (i + 1))) (k26 : (¬ (nI tn) ≤ (nI i)) → zx_At p l e R s mi args below meth co (zx_Q below s D zcl w0 kr nr R post) D zcl (va_A w0 s.heap.size) 3 [(0, .ref ma), (1, .int (nI m)), (2, .int (nI (i + 1)))] [(ma, .inr (5, [.int (0 : Int32), .ref tp, .int (nI tn), .ref rp, .int (nI rn), .ref dp, .int dn, .ref wp, .int wn, .int ba, .ref op, .int on, .ref bp, .ref lp, .ref ep, .int bb, .int bc, .int cw, .int cx, .int cf, .ref kp])), (tp, .inl (cB, 16384, .inl (upd f i (vp_nar .byte (((f i) &&& (nI (2 ^ m - 1))).toInt8.toInt32)))))] 0 0 26 []) : zx_At p l e R s mi args below meth co (zx_Q below s D zcl w0 kr nr R post) D zcl (va_A w0 s.heap.size) 3 [(0, .ref ma), (1, .int (nI m)), (2, .int (nI i))] [(ma, .inr (5, [.int (0 : Int32), .ref tp, .int (nI tn), .ref rp, .int (nI rn), .ref dp, .int dn, .ref wp, .int wn, .int ba, .ref op, .int on, .ref bp, .ref lp, .ref ep, .int bb, .int bc, .int cw, .int cx, .int cf, .ref kp])), (tp, .inl (cB, 16384, .inl f))] 0 0 26 [] := by
  refine zx_iload_n (pc := 26) C d_MO_mask_26 rfl 2 rfl ?_
  refine zx_aload_n (pc := 27) C d_MO_mask_27 rfl 0 rfl ?_
  refine zx_get (pc := 28) (ci := 5) (Cn := R_MO) (T := T_MO) (N := 21) (v := .int (nI tn)) C zu_MO 0 rfl rfl 2 (by decide) zw_705 rfl rfl d_MO_mask_28 ?_
  refine zx_icmp_ge (pc := 31) C 59 d_MO_mask_31 (by decide) (fun c31 => ?_) (fun c31 => ?_)
  · exact zx_vret (pc := 59) C hr9 hlk9 (Nat.zero_le _) (Nat.zero_le _) d_MO_mask_59 (r59 c31)
  · refine zx_aload_n (pc := 34) C d_MO_mask_34 rfl 0 rfl ?_
    refine zx_get (pc := 35) (ci := 5) (Cn := R_MO) (T := T_MO) (N := 21) (v := .ref tp) C zu_MO 0 rfl rfl 1 (by decide) zw_704 rfl rfl d_MO_mask_35 ?_
    refine zx_iload_n (pc := 38) C d_MO_mask_38 rfl 2 rfl ?_
    refine zx_aload_n (pc := 39) C d_MO_mask_39 rfl 0 rfl ?_
    refine zx_get (pc := 40) (ci := 5) (Cn := R_MO) (T := T_MO) (N := 21) (v := .ref tp) C zu_MO 0 rfl rfl 1 (by decide) zw_704 rfl rfl d_MO_mask_40 ?_
    refine zx_iload_n (pc := 43) C d_MO_mask_43 rfl 2 rfl ?_
    refine zx_bald (pc := 44) C 1 0 rfl rfl i (b44 c31).1 (b44 c31).2 (by decide) d_MO_mask_44 ?_
    refine zx_iconst (pc := 45) C d_MO_mask_45 (v := (1 : Int32)) (by decide) ?_
    refine zx_iload_n (pc := 46) C d_MO_mask_46 rfl 1 rfl ?_
    refine zx_ishl (pc := 47) C d_MO_mask_47 ?_
    refine zx_seti (nI (2 ^ m)) (e47 c31) ?_
    refine zx_iconst (pc := 48) C d_MO_mask_48 (v := (1 : Int32)) (by decide) ?_
    refine zx_isub (pc := 49) C d_MO_mask_49 ?_
    refine zx_seti (nI (2 ^ m - 1)) (e49 c31) ?_
    refine zx_iand (pc := 50) C d_MO_mask_50 ?_
    refine zx_i2b (pc := 51) C d_MO_mask_51 rfl ?_
    refine zx_bast (pc := 52) (ws' := [(ma, .inr (5, [.int (0 : Int32), .ref tp, .int (nI tn), .ref rp, .int (nI rn), .ref dp, .int dn, .ref wp, .int wn, .int ba, .ref op, .int on, .ref bp, .ref lp, .ref ep, .int bb, .int bc, .int cw, .int cx, .int cf, .ref kp])), (tp, .inl (cB, 16384, .inl (upd f i (vp_nar .byte (((f i) &&& (nI (2 ^ m - 1))).toInt8.toInt32)))))]) C 1 0 rfl rfl i (b52 c31).1 (b52 c31).2 (by decide) rfl d_MO_mask_52 ?_
    refine zx_iinc (pc := 53) C d_MO_mask_53 2 rfl (v := (nI (i + 1))) (e53 c31) (by decide) (lv' := [(2, .int (nI (i + 1))), (0, .ref ma), (1, .int (nI m))]) rfl ?_
    refine zx_goto (pc := 56) C 26 d_MO_mask_56 (by decide) ?_
    refine zx_lv (lv' := [(0, .ref ma), (1, .int (nI m)), (2, .int (nI (i + 1)))]) [1, 2, 0] rfl ?_
    exact k26 c31

theorem k_MO_mask (l : Launch) (D : va_G) (cB cI cL : ClassId) (R : Room) (ma tp rp dp wp op bp lp ep kp tn rn : Nat) (fl dn wn ba on bb bc cw cx cf : Int32) (m9 : Int32) (f : Nat → Int32) (hn : tn ≤ 16384) : zx_K l zB D zcl (zt cB cI cL) y_MO_mask b_MO_mask 3 (none) [] 0 0 R [.ref ma, .int m9] [(ma, .inr (5, [.int fl, .ref tp, .int (nI tn), .ref rp, .int (nI rn), .ref dp, .int dn, .ref wp, .int wn, .int ba, .ref op, .int on, .ref bp, .ref lp, .ref ep, .int bb, .int bc, .int cw, .int cx, .int cf, .ref kp])), (tp, .inl (cB, 16384, .inl f))] (fun o w => ((m9 < 2 ∨ 8 < m9) ∧ o = .returned none ∧ w = [(ma, .inr (5, [.int 1, .ref tp, .int (nI tn), .ref rp, .int (nI rn), .ref dp, .int dn, .ref wp, .int wn, .int ba, .ref op, .int on, .ref bp, .ref lp, .ref ep, .int bb, .int bc, .int cw, .int cx, .int cf, .ref kp])), (tp, .inl (cB, 16384, .inl f))]) ∨ (∃ m1 : Nat, (m9 = nI m1 ∧ 2 ≤ m1 ∧ m1 ≤ 8) ∧ o = .returned none ∧ w = [(ma, .inr (5, [.int 0, .ref tp, .int (nI tn), .ref rp, .int (nI rn), .ref dp, .int dn, .ref wp, .int wn, .int ba, .ref op, .int on, .ref bp, .ref lp, .ref ep, .int bb, .int bc, .int cw, .int cx, .int cf, .ref kp])), (tp, .inl (cB, 16384, .inl (zmk m1 f tn)))])) := by
  refine zx_K.mk (Nat.le_of_ble_eq_true rfl) (fun p e s mm below meth c9 C hr hlk ht hnm => ?_)
  have go : ¬ (m9 < 2 ∨ 8 < m9) → zx_At p l e R s mm (([.ref ma, .int m9] : List Value)).toArray below meth c9 (zx_Q below s D zcl [(ma, .inr (5, [.int fl, .ref tp, .int (nI tn), .ref rp, .int (nI rn), .ref dp, .int dn, .ref wp, .int wn, .int ba, .ref op, .int on, .ref bp, .ref lp, .ref ep, .int bb, .int bc, .int cw, .int cx, .int cf, .ref kp])), (tp, .inl (cB, 16384, .inl f))] 0 0 R (fun o w => ((m9 < 2 ∨ 8 < m9) ∧ o = .returned none ∧ w = [(ma, .inr (5, [.int 1, .ref tp, .int (nI tn), .ref rp, .int (nI rn), .ref dp, .int dn, .ref wp, .int wn, .int ba, .ref op, .int on, .ref bp, .ref lp, .ref ep, .int bb, .int bc, .int cw, .int cx, .int cf, .ref kp])), (tp, .inl (cB, 16384, .inl f))]) ∨ (∃ m1 : Nat, (m9 = nI m1 ∧ 2 ≤ m1 ∧ m1 ≤ 8) ∧ o = .returned none ∧ w = [(ma, .inr (5, [.int 0, .ref tp, .int (nI tn), .ref rp, .int (nI rn), .ref dp, .int dn, .ref wp, .int wn, .int ba, .ref op, .int on, .ref bp, .ref lp, .ref ep, .int bb, .int bc, .int cw, .int cx, .int cf, .ref kp])), (tp, .inl (cB, 16384, .inl (zmk m1 f tn)))]))) D zcl (va_A [(ma, .inr (5, [.int fl, .ref tp, .int (nI tn), .ref rp, .int (nI rn), .ref dp, .int dn, .ref wp, .int wn, .int ba, .ref op, .int on, .ref bp, .ref lp, .ref ep, .int bb, .int bc, .int cw, .int cx, .int cf, .ref kp])), (tp, .inl (cB, 16384, .inl f))] s.heap.size) 3 [(0, .ref ma), (1, .int m9), (2, .int (0 : Int32))] [(ma, .inr (5, [.int (0 : Int32), .ref tp, .int (nI tn), .ref rp, .int (nI rn), .ref dp, .int dn, .ref wp, .int wn, .int ba, .ref op, .int on, .ref bp, .ref lp, .ref ep, .int bb, .int bc, .int cw, .int cx, .int cf, .ref kp])), (tp, .inl (cB, 16384, .inl f))] 0 0 26 [] := by
    intro h
    obtain ⟨m, hm9, hm⟩ := zm_ok h
    subst hm9
    have hp1 : 1 ≤ 2 ^ m := Nat.one_le_two_pow
    have loop : ∀ (d i : Nat), i + d = tn → zx_At p l e R s mm (([.ref ma, .int (nI m)] : List Value)).toArray below meth c9 (zx_Q below s D zcl [(ma, .inr (5, [.int fl, .ref tp, .int (nI tn), .ref rp, .int (nI rn), .ref dp, .int dn, .ref wp, .int wn, .int ba, .ref op, .int on, .ref bp, .ref lp, .ref ep, .int bb, .int bc, .int cw, .int cx, .int cf, .ref kp])), (tp, .inl (cB, 16384, .inl f))] 0 0 R (fun o w => (((nI m) < 2 ∨ 8 < (nI m)) ∧ o = .returned none ∧ w = [(ma, .inr (5, [.int 1, .ref tp, .int (nI tn), .ref rp, .int (nI rn), .ref dp, .int dn, .ref wp, .int wn, .int ba, .ref op, .int on, .ref bp, .ref lp, .ref ep, .int bb, .int bc, .int cw, .int cx, .int cf, .ref kp])), (tp, .inl (cB, 16384, .inl f))]) ∨ (∃ m1 : Nat, ((nI m) = nI m1 ∧ 2 ≤ m1 ∧ m1 ≤ 8) ∧ o = .returned none ∧ w = [(ma, .inr (5, [.int 0, .ref tp, .int (nI tn), .ref rp, .int (nI rn), .ref dp, .int dn, .ref wp, .int wn, .int ba, .ref op, .int on, .ref bp, .ref lp, .ref ep, .int bb, .int bc, .int cw, .int cx, .int cf, .ref kp])), (tp, .inl (cB, 16384, .inl (zmk m1 f tn)))]))) D zcl (va_A [(ma, .inr (5, [.int fl, .ref tp, .int (nI tn), .ref rp, .int (nI rn), .ref dp, .int dn, .ref wp, .int wn, .int ba, .ref op, .int on, .ref bp, .ref lp, .ref ep, .int bb, .int bc, .int cw, .int cx, .int cf, .ref kp])), (tp, .inl (cB, 16384, .inl f))] s.heap.size) 3 [(0, .ref ma), (1, .int (nI m)), (2, .int (nI i))] [(ma, .inr (5, [.int (0 : Int32), .ref tp, .int (nI tn), .ref rp, .int (nI rn), .ref dp, .int dn, .ref wp, .int wn, .int ba, .ref op, .int on, .ref bp, .ref lp, .ref ep, .int bb, .int bc, .int cw, .int cx, .int cf, .ref kp])), (tp, .inl (cB, 16384, .inl (zmk m f i)))] 0 0 26 [] := by
      intro d
      induction d with
      | zero =>
        intro i hi
        have key : nI tn ≤ nI i := by rw [show i = tn by omega]; exact Int32.le_refl _
        exact sg_MO_mask26 C hr hlk (fun _ => Or.inr ⟨m, ⟨rfl, hm⟩, rfl, by rw [show i = tn by omega]⟩) (fun z => absurd key z) (fun z => absurd key z) (fun z => absurd key z) (fun z => absurd key z) (fun z => absurd key z) (fun z => absurd key z)
      | succ d ih =>
        intro i hi
        have nk : ¬ nI tn ≤ nI i := fun z => absurd ((nI_leI (by omega) (by omega)).mp z) (by omega)
        refine sg_MO_mask26 C hr hlk (fun z => absurd z nk) (fun _ => ⟨rfl, by omega⟩) (fun _ => zp_shl1 m (by omega)) (fun _ => zsub1 hp1) (fun _ => ⟨rfl, by omega⟩) (fun _ => nI_1 i) (fun _ => ?_)
        rw [zmk_s]
        exact ih (i + 1) (by omega)
    have h0 := loop tn 0 (by omega)
    rw [zmk_0] at h0
    exact h0
  refine sg_MO_mask0 C hr hlk (fun h => Or.inl ⟨Or.inl h, rfl, rfl⟩) (fun h1 h2 => go ?_) (fun h1 h2 => Or.inl ⟨Or.inr (zi_nle.mp h2), rfl, rfl⟩)
  intro h
  rcases h with h | h
  · exact h1 h
  · exact zi_nle.mpr h h2
theorem zag_0 (g f : Nat → Int32) : zag g f 0 = g := by funext j; simp [zag]
theorem zag_s {g f : Nat → Int32} {i : Nat} (h : vp_nar .byte (f i) = f i) : upd (zag g f i) i (vp_nar .byte (f i)) = zag g f (i + 1) := by
  funext j
  rw [h]
  unfold upd zag
  by_cases q : j = i
  · subst q; rw [if_pos rfl, if_pos (Nat.lt_succ_self _)]
  · rw [if_neg q]
    by_cases h2 : j < i
    · rw [if_pos h2, if_pos (by omega)]
    · rw [if_neg h2, if_neg (by omega)]
set_option maxRecDepth 100000 in
set_option maxHeartbeats 4000000 in
theorem sg_MO_again0 {p : Program} {l : Launch} {e : Env} {R : Room} {s : State} {mi : MethodId} {args : Array Value} {below : List Frame} {meth : Method} {co : Code} {D : va_G} {cB cI cL : ClassId} {Q : State → Prop} {A : Nat → Prop} (C : zx_C p s mi args co b_MO_again 2 R_MO zB D zcl (zt cB cI cL) A) {ma tp rp dp wp op bp lp ep kp tn rn : Nat} {fl dn wn ba on bb bc cw cx cf : Int32} {f g : Nat → Int32} (k7 : zx_At p l e R s mi args below meth co Q D zcl A 2 [(0, .ref ma), (1, .int (0 : Int32))] [(ma, .inr (5, [.int (0 : Int32), .ref tp, .int (nI tn), .ref rp, .int (nI rn), .ref dp, .int dn, .ref wp, .int wn, .int ba, .ref op, .int on, .ref bp, .ref lp, .ref ep, .int bb, .int bc, .int cw, .int cx, .int cf, .ref kp])), (tp, .inl (cB, 16384, .inl f)), (rp, .inl (cB, 16384, .inl g))] 0 0 7 []) : zx_At p l e R s mi args below meth co Q D zcl A 2 [(0, .ref ma)] [(ma, .inr (5, [.int fl, .ref tp, .int (nI tn), .ref rp, .int (nI rn), .ref dp, .int dn, .ref wp, .int wn, .int ba, .ref op, .int on, .ref bp, .ref lp, .ref ep, .int bb, .int bc, .int cw, .int cx, .int cf, .ref kp])), (tp, .inl (cB, 16384, .inl f)), (rp, .inl (cB, 16384, .inl g))] 0 0 0 [] := by
  refine zx_aload_n (pc := 0) C d_MO_again_0 rfl 0 rfl ?_
  refine zx_iconst (pc := 1) C d_MO_again_1 (v := (0 : Int32)) (by decide) ?_
  refine zx_put (pc := 2) (ci := 5) (Cn := R_MO) (T := T_MO) (N := 21) (v := .int (0 : Int32)) (ty := .int) (ws' := [(ma, .inr (5, [.int (0 : Int32), .ref tp, .int (nI tn), .ref rp, .int (nI rn), .ref dp, .int dn, .ref wp, .int wn, .int ba, .ref op, .int on, .ref bp, .ref lp, .ref ep, .int bb, .int bc, .int cw, .int cx, .int cf, .ref kp])), (tp, .inl (cB, 16384, .inl f)), (rp, .inl (cB, 16384, .inl g))]) C zu_MO ty_MO tyk_MO nm_MO 0 rfl rfl 0 (by decide) zw_703 rfl rfl (by decide +kernel) rfl rfl (Nat.le_of_ble_eq_true rfl) rfl d_MO_again_2 ?_
  refine zx_iconst (pc := 5) C d_MO_again_5 (v := (0 : Int32)) (by decide) ?_
  refine zx_istore_n (pc := 6) C d_MO_again_6 rfl (by decide) (lv' := [(1, .int (0 : Int32)), (0, .ref ma)]) rfl ?_
  refine zx_lv (lv' := [(0, .ref ma), (1, .int (0 : Int32))]) [1, 0] rfl ?_
  exact k7

set_option maxRecDepth 100000 in
set_option maxHeartbeats 4000000 in
theorem sg_MO_again7 {p : Program} {l : Launch} {e : Env} {R : Room} {s : State} {mi : MethodId} {args : Array Value} {below : List Frame} {meth : Method} {co : Code} {D : va_G} {cB cI cL : ClassId} {w0 : va_W} {kr nr : Nat} {post : Outcome → va_W → Prop} (C : zx_C p s mi args co b_MO_again 2 R_MO zB D zcl (zt cB cI cL) (va_A w0 s.heap.size)) {ma tp rp dp wp op bp lp ep kp tn rn  : Nat} {dn wn ba on bb bc cw cx cf : Int32} {i : Nat} {f g : Nat → Int32} (hr9 : meth.sig.returnType = some .int) (hlk9 : meth.locks = false) (r45 : ((nI rn) ≤ (nI i)) → post (.returned (some (.int (nI rn)))) [(ma, .inr (5, [.int (0 : Int32), .ref tp, .int (nI rn), .ref rp, .int (nI rn), .ref dp, .int dn, .ref wp, .int wn, .int ba, .ref op, .int on, .ref bp, .ref lp, .ref ep, .int bb, .int bc, .int cw, .int cx, .int cf, .ref kp])), (tp, .inl (cB, 16384, .inl f)), (rp, .inl (cB, 16384, .inl g))]) (b25 : (¬ (nI rn) ≤ (nI i)) → (nI i) = nI i ∧ i < 16384) (b26 : (¬ (nI rn) ≤ (nI i)) → (nI i) = nI i ∧ i < 16384) (e27 : (¬ (nI rn) ≤ (nI i)) → (nI i) + (1 : Int32) = (nI (i + 1))) (k7 : (¬ (nI rn) ≤ (nI i)) → zx_At p l e R s mi args below meth co (zx_Q below s D zcl w0 kr nr R post) D zcl (va_A w0 s.heap.size) 2 [(0, .ref ma), (1, .int (nI (i + 1)))] [(ma, .inr (5, [.int (0 : Int32), .ref tp, .int (nI tn), .ref rp, .int (nI rn), .ref dp, .int dn, .ref wp, .int wn, .int ba, .ref op, .int on, .ref bp, .ref lp, .ref ep, .int bb, .int bc, .int cw, .int cx, .int cf, .ref kp])), (tp, .inl (cB, 16384, .inl (upd f i (vp_nar .byte (g i))))), (rp, .inl (cB, 16384, .inl g))] 0 0 7 []) : zx_At p l e R s mi args below meth co (zx_Q below s D zcl w0 kr nr R post) D zcl (va_A w0 s.heap.size) 2 [(0, .ref ma), (1, .int (nI i))] [(ma, .inr (5, [.int (0 : Int32), .ref tp, .int (nI tn), .ref rp, .int (nI rn), .ref dp, .int dn, .ref wp, .int wn, .int ba, .ref op, .int on, .ref bp, .ref lp, .ref ep, .int bb, .int bc, .int cw, .int cx, .int cf, .ref kp])), (tp, .inl (cB, 16384, .inl f)), (rp, .inl (cB, 16384, .inl g))] 0 0 7 [] := by
  refine zx_iload_n (pc := 7) C d_MO_again_7 rfl 1 rfl ?_
  refine zx_aload_n (pc := 8) C d_MO_again_8 rfl 0 rfl ?_
  refine zx_get (pc := 9) (ci := 5) (Cn := R_MO) (T := T_MO) (N := 21) (v := .int (nI rn)) C zu_MO 0 rfl rfl 4 (by decide) zw_707 rfl rfl d_MO_again_9 ?_
  refine zx_icmp_ge (pc := 12) C 33 d_MO_again_12 (by decide) (fun c12 => ?_) (fun c12 => ?_)
  · refine zx_aload_n (pc := 33) C d_MO_again_33 rfl 0 rfl ?_
    refine zx_aload_n (pc := 34) C d_MO_again_34 rfl 0 rfl ?_
    refine zx_get (pc := 35) (ci := 5) (Cn := R_MO) (T := T_MO) (N := 21) (v := .int (nI rn)) C zu_MO 0 rfl rfl 4 (by decide) zw_707 rfl rfl d_MO_again_35 ?_
    refine zx_put (pc := 38) (ci := 5) (Cn := R_MO) (T := T_MO) (N := 21) (v := .int (nI rn)) (ty := .int) (ws' := [(ma, .inr (5, [.int (0 : Int32), .ref tp, .int (nI rn), .ref rp, .int (nI rn), .ref dp, .int dn, .ref wp, .int wn, .int ba, .ref op, .int on, .ref bp, .ref lp, .ref ep, .int bb, .int bc, .int cw, .int cx, .int cf, .ref kp])), (tp, .inl (cB, 16384, .inl f)), (rp, .inl (cB, 16384, .inl g))]) C zu_MO ty_MO tyk_MO nm_MO 0 rfl rfl 2 (by decide) zw_705 rfl rfl (by decide +kernel) rfl rfl (Nat.le_of_ble_eq_true rfl) rfl d_MO_again_38 ?_
    refine zx_aload_n (pc := 41) C d_MO_again_41 rfl 0 rfl ?_
    refine zx_get (pc := 42) (ci := 5) (Cn := R_MO) (T := T_MO) (N := 21) (v := .int (nI rn)) C zu_MO 0 rfl rfl 2 (by decide) zw_705 rfl rfl d_MO_again_42 ?_
    exact zx_iret (pc := 45) C hr9 hlk9 (Nat.zero_le _) (Nat.zero_le _) d_MO_again_45 (r45 c12)
  · refine zx_aload_n (pc := 15) C d_MO_again_15 rfl 0 rfl ?_
    refine zx_get (pc := 16) (ci := 5) (Cn := R_MO) (T := T_MO) (N := 21) (v := .ref tp) C zu_MO 0 rfl rfl 1 (by decide) zw_704 rfl rfl d_MO_again_16 ?_
    refine zx_iload_n (pc := 19) C d_MO_again_19 rfl 1 rfl ?_
    refine zx_aload_n (pc := 20) C d_MO_again_20 rfl 0 rfl ?_
    refine zx_get (pc := 21) (ci := 5) (Cn := R_MO) (T := T_MO) (N := 21) (v := .ref rp) C zu_MO 0 rfl rfl 3 (by decide) zw_706 rfl rfl d_MO_again_21 ?_
    refine zx_iload_n (pc := 24) C d_MO_again_24 rfl 1 rfl ?_
    refine zx_bald (pc := 25) C 2 0 rfl rfl i (b25 c12).1 (b25 c12).2 (by decide) d_MO_again_25 ?_
    refine zx_bast (pc := 26) (ws' := [(ma, .inr (5, [.int (0 : Int32), .ref tp, .int (nI tn), .ref rp, .int (nI rn), .ref dp, .int dn, .ref wp, .int wn, .int ba, .ref op, .int on, .ref bp, .ref lp, .ref ep, .int bb, .int bc, .int cw, .int cx, .int cf, .ref kp])), (tp, .inl (cB, 16384, .inl (upd f i (vp_nar .byte (g i))))), (rp, .inl (cB, 16384, .inl g))]) C 1 0 rfl rfl i (b26 c12).1 (b26 c12).2 (by decide) rfl d_MO_again_26 ?_
    refine zx_iinc (pc := 27) C d_MO_again_27 1 rfl (v := (nI (i + 1))) (e27 c12) (by decide) (lv' := [(1, .int (nI (i + 1))), (0, .ref ma)]) rfl ?_
    refine zx_goto (pc := 30) C 7 d_MO_again_30 (by decide) ?_
    refine zx_lv (lv' := [(0, .ref ma), (1, .int (nI (i + 1)))]) [1, 0] rfl ?_
    exact k7 c12

theorem k_MO_again (l : Launch) (D : va_G) (cB cI cL : ClassId) (R : Room) (ma tp rp dp wp op bp lp ep kp tn rn : Nat) (fl dn wn ba on bb bc cw cx cf : Int32) (f g : Nat → Int32) (hr8 : rn ≤ 16384) (hby : ∀ j, vp_nar .byte (g j) = g j) : zx_K l zB D zcl (zt cB cI cL) y_MO_again b_MO_again 2 (some .int) [] 0 0 R [.ref ma] [(ma, .inr (5, [.int fl, .ref tp, .int (nI tn), .ref rp, .int (nI rn), .ref dp, .int dn, .ref wp, .int wn, .int ba, .ref op, .int on, .ref bp, .ref lp, .ref ep, .int bb, .int bc, .int cw, .int cx, .int cf, .ref kp])), (tp, .inl (cB, 16384, .inl f)), (rp, .inl (cB, 16384, .inl g))] (fun o w => o = .returned (some (.int (nI rn))) ∧ w = [(ma, .inr (5, [.int 0, .ref tp, .int (nI rn), .ref rp, .int (nI rn), .ref dp, .int dn, .ref wp, .int wn, .int ba, .ref op, .int on, .ref bp, .ref lp, .ref ep, .int bb, .int bc, .int cw, .int cx, .int cf, .ref kp])), (tp, .inl (cB, 16384, .inl (zag f g rn))), (rp, .inl (cB, 16384, .inl g))]) := by
  refine zx_K.mk (Nat.le_of_ble_eq_true rfl) (fun p e s mm below meth c9 C hr hlk ht hnm => ?_)
  have loop : ∀ (d i : Nat), i + d = rn → zx_At p l e R s mm (([.ref ma] : List Value)).toArray below meth c9 (zx_Q below s D zcl [(ma, .inr (5, [.int fl, .ref tp, .int (nI tn), .ref rp, .int (nI rn), .ref dp, .int dn, .ref wp, .int wn, .int ba, .ref op, .int on, .ref bp, .ref lp, .ref ep, .int bb, .int bc, .int cw, .int cx, .int cf, .ref kp])), (tp, .inl (cB, 16384, .inl f)), (rp, .inl (cB, 16384, .inl g))] 0 0 R (fun o w => o = .returned (some (.int (nI rn))) ∧ w = [(ma, .inr (5, [.int 0, .ref tp, .int (nI rn), .ref rp, .int (nI rn), .ref dp, .int dn, .ref wp, .int wn, .int ba, .ref op, .int on, .ref bp, .ref lp, .ref ep, .int bb, .int bc, .int cw, .int cx, .int cf, .ref kp])), (tp, .inl (cB, 16384, .inl (zag f g rn))), (rp, .inl (cB, 16384, .inl g))])) D zcl (va_A [(ma, .inr (5, [.int fl, .ref tp, .int (nI tn), .ref rp, .int (nI rn), .ref dp, .int dn, .ref wp, .int wn, .int ba, .ref op, .int on, .ref bp, .ref lp, .ref ep, .int bb, .int bc, .int cw, .int cx, .int cf, .ref kp])), (tp, .inl (cB, 16384, .inl f)), (rp, .inl (cB, 16384, .inl g))] s.heap.size) 2 [(0, .ref ma), (1, .int (nI i))] [(ma, .inr (5, [.int (0 : Int32), .ref tp, .int (nI tn), .ref rp, .int (nI rn), .ref dp, .int dn, .ref wp, .int wn, .int ba, .ref op, .int on, .ref bp, .ref lp, .ref ep, .int bb, .int bc, .int cw, .int cx, .int cf, .ref kp])), (tp, .inl (cB, 16384, .inl (zag f g i))), (rp, .inl (cB, 16384, .inl g))] 0 0 7 [] := by
    intro d
    induction d with
    | zero =>
      intro i hi
      have key : nI rn ≤ nI i := by rw [show i = rn by omega]; exact Int32.le_refl _
      exact sg_MO_again7 C hr hlk (fun _ => ⟨rfl, by rw [show i = rn by omega]⟩) (fun z => absurd key z) (fun z => absurd key z) (fun z => absurd key z) (fun z => absurd key z)
    | succ d ih =>
      intro i hi
      have nk : ¬ nI rn ≤ nI i := fun z => absurd ((nI_leI (by omega) (by omega)).mp z) (by omega)
      refine sg_MO_again7 C hr hlk (fun z => absurd z nk) (fun _ => ⟨rfl, by omega⟩) (fun _ => ⟨rfl, by omega⟩) (fun _ => nI_1 i) (fun _ => ?_)
      rw [zag_s (hby i)]
      exact ih (i + 1) (by omega)
  refine sg_MO_again0 C ?_
  have h0 := loop rn 0 (by omega)
  rw [zag_0] at h0
  exact h0
set_option maxRecDepth 100000 in
set_option maxHeartbeats 4000000 in
theorem sg_MO_word0 {p : Program} {l : Launch} {e : Env} {s : State} {mi : MethodId} {args : Array Value} {below : List Frame} {meth : Method} {co : Code} {D : va_G} {cB cI cL : ClassId} {w0 : va_W} {kr nr : Nat} {post : Outcome → va_W → Prop} (C : zx_C p s mi args co b_MO_word 5 R_MO zB D zcl (zt cB cI cL) (va_A w0 s.heap.size)) {ma tp rp dp wp op bp lp ep kp tn rn : Nat} {fl dn wn ba on bb bc cw cx cf : Int32} {i9 : Int32} {g : Nat → Int32} (hr9 : meth.sig.returnType = some .long) (hlk9 : meth.locks = false) (r23 : (i9 < 0) → post (.returned (some (.long ((0 : Int32).toInt64)))) [(ma, .inr (5, [.int (1 : Int32), .ref tp, .int (nI tn), .ref rp, .int (nI rn), .ref dp, .int dn, .ref wp, .int wn, .int ba, .ref op, .int on, .ref bp, .ref lp, .ref ep, .int bb, .int bc, .int cw, .int cx, .int cf, .ref kp])), (rp, .inl (cB, 16384, .inl g))]) (k29 : (¬ i9 < 0) → (i9 < (nI rn)) → zx_At p l e (zr 1 0 0) s mi args below meth co (zx_Q below s D zcl w0 kr nr (zr 1 0 0) post) D zcl (va_A w0 s.heap.size) 5 [(0, .ref ma), (1, .int i9), (2, .long (0 : Int64)), (4, .int i9)] [(ma, .inr (5, [.int (0 : Int32), .ref tp, .int (nI tn), .ref rp, .int (nI rn), .ref dp, .int dn, .ref wp, .int wn, .int ba, .ref op, .int on, .ref bp, .ref lp, .ref ep, .int bb, .int bc, .int cw, .int cx, .int cf, .ref kp])), (rp, .inl (cB, 16384, .inl g))] 0 0 29 []) (r23_2 : (¬ i9 < 0) → (¬ i9 < (nI rn)) → post (.returned (some (.long ((0 : Int32).toInt64)))) [(ma, .inr (5, [.int (1 : Int32), .ref tp, .int (nI tn), .ref rp, .int (nI rn), .ref dp, .int dn, .ref wp, .int wn, .int ba, .ref op, .int on, .ref bp, .ref lp, .ref ep, .int bb, .int bc, .int cw, .int cx, .int cf, .ref kp])), (rp, .inl (cB, 16384, .inl g))]) : zx_At p l e (zr 1 0 0) s mi args below meth co (zx_Q below s D zcl w0 kr nr (zr 1 0 0) post) D zcl (va_A w0 s.heap.size) 5 [(0, .ref ma), (1, .int i9)] [(ma, .inr (5, [.int fl, .ref tp, .int (nI tn), .ref rp, .int (nI rn), .ref dp, .int dn, .ref wp, .int wn, .int ba, .ref op, .int on, .ref bp, .ref lp, .ref ep, .int bb, .int bc, .int cw, .int cx, .int cf, .ref kp])), (rp, .inl (cB, 16384, .inl g))] 0 0 0 [] := by
  refine zx_aload_n (pc := 0) C d_MO_word_0 rfl 0 rfl ?_
  refine zx_iconst (pc := 1) C d_MO_word_1 (v := (0 : Int32)) (by decide) ?_
  refine zx_put (pc := 2) (ci := 5) (Cn := R_MO) (T := T_MO) (N := 21) (v := .int (0 : Int32)) (ty := .int) (ws' := [(ma, .inr (5, [.int (0 : Int32), .ref tp, .int (nI tn), .ref rp, .int (nI rn), .ref dp, .int dn, .ref wp, .int wn, .int ba, .ref op, .int on, .ref bp, .ref lp, .ref ep, .int bb, .int bc, .int cw, .int cx, .int cf, .ref kp])), (rp, .inl (cB, 16384, .inl g))]) C zu_MO ty_MO tyk_MO nm_MO 0 rfl rfl 0 (by decide) zw_703 rfl rfl (by decide +kernel) rfl rfl (Nat.le_of_ble_eq_true rfl) rfl d_MO_word_2 ?_
  refine zx_iload_n (pc := 5) C d_MO_word_5 rfl 1 rfl ?_
  refine zx_if_lt (pc := 6) C 17 d_MO_word_6 (by decide) (fun c6 => ?_) (fun c6 => ?_)
  · refine zx_aload_n (pc := 17) C d_MO_word_17 rfl 0 rfl ?_
    refine zx_iconst (pc := 18) C d_MO_word_18 (v := (1 : Int32)) (by decide) ?_
    refine zx_callV (pc := 19) (ix := 109) (As := [.int (1 : Int32)]) (b := ma) (q0 := 0) (wr := [(rp, .inl (cB, 16384, .inl g))]) (st := []) C (zx_cw.of (C.w zw_780)) (by decide +kernel) ⟨by decide +kernel, by decide +kernel⟩ zw_779 zs_MO_fail zw_777 rfl rfl rfl rfl rfl (k_MO_fail l D cB cI cL (zr 0 0 0) ma tp rp dp wp op bp lp ep kp tn rn (0 : Int32) dn wn ba on bb bc cw cx cf (1 : Int32)) rfl [0] [1] rfl rfl (by decide) (by decide) (by decide) (Nat.le_of_ble_eq_true rfl) (Nat.le_of_ble_eq_true rfl) (Nat.le_of_ble_eq_true rfl) (Nat.le_of_ble_eq_true rfl) d_MO_word_19 (fun o w1 hp => ?_)
    obtain ⟨rfl, rfl⟩ := hp
    refine zx_ri (k2 := 0) (n2 := 0) rfl rfl ?_
    refine zx_ws (ws' := [(ma, .inr (5, [.int (1 : Int32), .ref tp, .int (nI tn), .ref rp, .int (nI rn), .ref dp, .int dn, .ref wp, .int wn, .int ba, .ref op, .int on, .ref bp, .ref lp, .ref ep, .int bb, .int bc, .int cw, .int cx, .int cf, .ref kp])), (rp, .inl (cB, 16384, .inl g))]) [1, 0] (by decide) rfl ?_
    refine zx_i2l (pc := 22) C d_MO_word_22 rfl ?_
    exact zx_lret (pc := 23) C hr9 hlk9 (Nat.zero_le _) (Nat.zero_le _) d_MO_word_23 (r23 c6)
  · refine zx_iload_n (pc := 9) C d_MO_word_9 rfl 1 rfl ?_
    refine zx_aload_n (pc := 10) C d_MO_word_10 rfl 0 rfl ?_
    refine zx_get (pc := 11) (ci := 5) (Cn := R_MO) (T := T_MO) (N := 21) (v := .int (nI rn)) C zu_MO 0 rfl rfl 4 (by decide) zw_707 rfl rfl d_MO_word_11 ?_
    refine zx_icmp_lt (pc := 14) C 24 d_MO_word_14 (by decide) (fun c14 => ?_) (fun c14 => ?_)
    · refine zx_lconst (pc := 24) C d_MO_word_24 (v := (0 : Int64)) (by decide) ?_
      refine zx_lstore_n (pc := 25) C d_MO_word_25 rfl (by decide) (lv' := [(2, .long (0 : Int64)), (0, .ref ma), (1, .int i9)]) rfl ?_
      refine zx_iload_n (pc := 26) C d_MO_word_26 rfl 2 rfl ?_
      refine zx_istore (pc := 27) C d_MO_word_27 (by decide) (lv' := [(4, .int i9), (2, .long (0 : Int64)), (0, .ref ma), (1, .int i9)]) rfl ?_
      refine zx_lv (lv' := [(0, .ref ma), (1, .int i9), (2, .long (0 : Int64)), (4, .int i9)]) [2, 3, 1, 0] rfl ?_
      exact k29 c6 c14
    · refine zx_aload_n (pc := 17) C d_MO_word_17 rfl 0 rfl ?_
      refine zx_iconst (pc := 18) C d_MO_word_18 (v := (1 : Int32)) (by decide) ?_
      refine zx_callV (pc := 19) (ix := 109) (As := [.int (1 : Int32)]) (b := ma) (q0 := 0) (wr := [(rp, .inl (cB, 16384, .inl g))]) (st := []) C (zx_cw.of (C.w zw_780)) (by decide +kernel) ⟨by decide +kernel, by decide +kernel⟩ zw_779 zs_MO_fail zw_777 rfl rfl rfl rfl rfl (k_MO_fail l D cB cI cL (zr 0 0 0) ma tp rp dp wp op bp lp ep kp tn rn (0 : Int32) dn wn ba on bb bc cw cx cf (1 : Int32)) rfl [0] [1] rfl rfl (by decide) (by decide) (by decide) (Nat.le_of_ble_eq_true rfl) (Nat.le_of_ble_eq_true rfl) (Nat.le_of_ble_eq_true rfl) (Nat.le_of_ble_eq_true rfl) d_MO_word_19 (fun o w1 hp => ?_)
      obtain ⟨rfl, rfl⟩ := hp
      refine zx_ri (k2 := 0) (n2 := 0) rfl rfl ?_
      refine zx_ws (ws' := [(ma, .inr (5, [.int (1 : Int32), .ref tp, .int (nI tn), .ref rp, .int (nI rn), .ref dp, .int dn, .ref wp, .int wn, .int ba, .ref op, .int on, .ref bp, .ref lp, .ref ep, .int bb, .int bc, .int cw, .int cx, .int cf, .ref kp])), (rp, .inl (cB, 16384, .inl g))]) [1, 0] (by decide) rfl ?_
      refine zx_i2l (pc := 22) C d_MO_word_22 rfl ?_
      exact zx_lret (pc := 23) C hr9 hlk9 (Nat.zero_le _) (Nat.zero_le _) d_MO_word_23 (r23_2 c6 c14)

set_option maxRecDepth 100000 in
set_option maxHeartbeats 4000000 in
theorem sg_MO_word29 {p : Program} {l : Launch} {e : Env} {R : Room} {s : State} {mi : MethodId} {args : Array Value} {below : List Frame} {meth : Method} {co : Code} {D : va_G} {cB cI cL : ClassId} {w0 : va_W} {kr nr : Nat} {post : Outcome → va_W → Prop} (C : zx_C p s mi args co b_MO_word 5 R_MO zB D zcl (zt cB cI cL) (va_A w0 s.heap.size)) {ma tp rp dp wp op bp lp ep kp tn rn  : Nat} {dn wn ba on bb bc cw cx cf : Int32} {i k : Nat} {x9 : Int64} {g : Nat → Int32} (hr9 : meth.sig.returnType = some .long) (hlk9 : meth.locks = false) (e34 : ((nI i) + (8 : Int32)) = (nI (i + 8))) (r77 : ((nI (i + 8)) ≤ (nI (i + k))) → post (.returned (some (.long x9))) [(ma, .inr (5, [.int (0 : Int32), .ref tp, .int (nI tn), .ref rp, .int (nI rn), .ref dp, .int dn, .ref wp, .int wn, .int ba, .ref op, .int on, .ref bp, .ref lp, .ref ep, .int bb, .int bc, .int cw, .int cx, .int cf, .ref kp])), (rp, .inl (cB, 16384, .inl g))]) (k67 : (¬ (nI (i + 8)) ≤ (nI (i + k))) → ((nI rn) ≤ (nI (i + k))) → zx_At p l e R s mi args below meth co (zx_Q below s D zcl w0 kr nr R post) D zcl (va_A w0 s.heap.size) 5 [(0, .ref ma), (1, .int (nI i)), (2, .long x9), (4, .int (nI (i + k)))] [(ma, .inr (5, [.int (0 : Int32), .ref tp, .int (nI tn), .ref rp, .int (nI rn), .ref dp, .int dn, .ref wp, .int wn, .int ba, .ref op, .int on, .ref bp, .ref lp, .ref ep, .int bb, .int bc, .int cw, .int cx, .int cf, .ref kp])), (rp, .inl (cB, 16384, .inl g))] 0 0 67 [.int (0 : Int32), .long (x9 * (256 : Int64))]) (b58 : (¬ (nI (i + 8)) ≤ (nI (i + k))) → (¬ (nI rn) ≤ (nI (i + k))) → (nI (i + k)) = nI (i + k) ∧ (i + k) < 16384) (e62 : (¬ (nI (i + 8)) ≤ (nI (i + k))) → (¬ (nI rn) ≤ (nI (i + k))) → ((g (i + k)) &&& (255 : Int32)) = (nI (zu (g (i + k))))) (k67_2 : (¬ (nI (i + 8)) ≤ (nI (i + k))) → (¬ (nI rn) ≤ (nI (i + k))) → zx_At p l e R s mi args below meth co (zx_Q below s D zcl w0 kr nr R post) D zcl (va_A w0 s.heap.size) 5 [(0, .ref ma), (1, .int (nI i)), (2, .long x9), (4, .int (nI (i + k)))] [(ma, .inr (5, [.int (0 : Int32), .ref tp, .int (nI tn), .ref rp, .int (nI rn), .ref dp, .int dn, .ref wp, .int wn, .int ba, .ref op, .int on, .ref bp, .ref lp, .ref ep, .int bb, .int bc, .int cw, .int cx, .int cf, .ref kp])), (rp, .inl (cB, 16384, .inl g))] 0 0 67 [.int (nI (zu (g (i + k)))), .long (x9 * (256 : Int64))]) : zx_At p l e R s mi args below meth co (zx_Q below s D zcl w0 kr nr R post) D zcl (va_A w0 s.heap.size) 5 [(0, .ref ma), (1, .int (nI i)), (2, .long x9), (4, .int (nI (i + k)))] [(ma, .inr (5, [.int (0 : Int32), .ref tp, .int (nI tn), .ref rp, .int (nI rn), .ref dp, .int dn, .ref wp, .int wn, .int ba, .ref op, .int on, .ref bp, .ref lp, .ref ep, .int bb, .int bc, .int cw, .int cx, .int cf, .ref kp])), (rp, .inl (cB, 16384, .inl g))] 0 0 29 [] := by
  refine zx_iload (pc := 29) C d_MO_word_29 3 rfl ?_
  refine zx_iload_n (pc := 31) C d_MO_word_31 rfl 1 rfl ?_
  refine zx_bipush (pc := 32) C d_MO_word_32 (v := (8 : Int32)) (by decide) ?_
  refine zx_iadd (pc := 34) C d_MO_word_34 ?_
  refine zx_seti (nI (i + 8)) (e34) ?_
  refine zx_icmp_ge (pc := 35) C 76 d_MO_word_35 (by decide) (fun c35 => ?_) (fun c35 => ?_)
  · refine zx_lload_n (pc := 76) C d_MO_word_76 rfl 2 rfl ?_
    exact zx_lret (pc := 77) C hr9 hlk9 (Nat.zero_le _) (Nat.zero_le _) d_MO_word_77 (r77 c35)
  · refine zx_lload_n (pc := 38) C d_MO_word_38 rfl 2 rfl ?_
    refine zx_ldc2 (pc := 39) C zw_863 d_MO_word_39 ?_
    refine zx_lmul (pc := 42) C d_MO_word_42 ?_
    refine zx_iload (pc := 43) C d_MO_word_43 3 rfl ?_
    refine zx_aload_n (pc := 45) C d_MO_word_45 rfl 0 rfl ?_
    refine zx_get (pc := 46) (ci := 5) (Cn := R_MO) (T := T_MO) (N := 21) (v := .int (nI rn)) C zu_MO 0 rfl rfl 4 (by decide) zw_707 rfl rfl d_MO_word_46 ?_
    refine zx_icmp_ge (pc := 49) C 66 d_MO_word_49 (by decide) (fun c49 => ?_) (fun c49 => ?_)
    · refine zx_iconst (pc := 66) C d_MO_word_66 (v := (0 : Int32)) (by decide) ?_
      exact k67 c35 c49
    · refine zx_aload_n (pc := 52) C d_MO_word_52 rfl 0 rfl ?_
      refine zx_get (pc := 53) (ci := 5) (Cn := R_MO) (T := T_MO) (N := 21) (v := .ref rp) C zu_MO 0 rfl rfl 3 (by decide) zw_706 rfl rfl d_MO_word_53 ?_
      refine zx_iload (pc := 56) C d_MO_word_56 3 rfl ?_
      refine zx_bald (pc := 58) C 1 0 rfl rfl (i + k) (b58 c35 c49).1 (b58 c35 c49).2 (by decide) d_MO_word_58 ?_
      refine zx_sipush (pc := 59) C d_MO_word_59 (v := (255 : Int32)) (by decide) ?_
      refine zx_iand (pc := 62) C d_MO_word_62 ?_
      refine zx_seti (nI (zu (g (i + k)))) (e62 c35 c49) ?_
      refine zx_goto (pc := 63) C 67 d_MO_word_63 (by decide) ?_
      exact k67_2 c35 c49

set_option maxRecDepth 100000 in
set_option maxHeartbeats 4000000 in
theorem sg_MO_word67 {p : Program} {l : Launch} {e : Env} {R : Room} {s : State} {mi : MethodId} {args : Array Value} {below : List Frame} {meth : Method} {co : Code} {D : va_G} {cB cI cL : ClassId} {Q : State → Prop} {A : Nat → Prop} (C : zx_C p s mi args co b_MO_word 5 R_MO zB D zcl (zt cB cI cL) A) {ma tp rp dp wp op bp lp ep kp tn rn  : Nat} {dn wn ba on bb bc cw cx cf : Int32} {i k v : Nat} {x9 y9 : Int64} {g : Nat → Int32} (e68 : ((x9 * (256 : Int64)) + ((nI v).toInt64)) = y9) (e70 : (nI (i + k)) + (1 : Int32) = (nI (i + (k + 1)))) (k29 : zx_At p l e R s mi args below meth co Q D zcl A 5 [(0, .ref ma), (1, .int (nI i)), (2, .long y9), (4, .int (nI (i + (k + 1))))] [(ma, .inr (5, [.int (0 : Int32), .ref tp, .int (nI tn), .ref rp, .int (nI rn), .ref dp, .int dn, .ref wp, .int wn, .int ba, .ref op, .int on, .ref bp, .ref lp, .ref ep, .int bb, .int bc, .int cw, .int cx, .int cf, .ref kp])), (rp, .inl (cB, 16384, .inl g))] 0 0 29 []) : zx_At p l e R s mi args below meth co Q D zcl A 5 [(0, .ref ma), (1, .int (nI i)), (2, .long x9), (4, .int (nI (i + k)))] [(ma, .inr (5, [.int (0 : Int32), .ref tp, .int (nI tn), .ref rp, .int (nI rn), .ref dp, .int dn, .ref wp, .int wn, .int ba, .ref op, .int on, .ref bp, .ref lp, .ref ep, .int bb, .int bc, .int cw, .int cx, .int cf, .ref kp])), (rp, .inl (cB, 16384, .inl g))] 0 0 67 [.int (nI v), .long (x9 * (256 : Int64))] := by
  refine zx_i2l (pc := 67) C d_MO_word_67 rfl ?_
  refine zx_ladd (pc := 68) C d_MO_word_68 ?_
  refine zx_setl y9 (e68) ?_
  refine zx_lstore_n (pc := 69) C d_MO_word_69 rfl (by decide) (lv' := [(2, .long y9), (0, .ref ma), (1, .int (nI i)), (4, .int (nI (i + k)))]) rfl ?_
  refine zx_iinc (pc := 70) C d_MO_word_70 3 rfl (v := (nI (i + (k + 1)))) (e70) (by decide) (lv' := [(4, .int (nI (i + (k + 1)))), (2, .long y9), (0, .ref ma), (1, .int (nI i))]) rfl ?_
  refine zx_goto (pc := 73) C 29 d_MO_word_73 (by decide) ?_
  refine zx_lv (lv' := [(0, .ref ma), (1, .int (nI i)), (2, .long y9), (4, .int (nI (i + (k + 1))))]) [2, 3, 1, 0] rfl ?_
  exact k29

theorem k_MO_word (l : Launch) (D : va_G) (cB cI cL : ClassId) (ma tp rp dp wp op bp lp ep kp tn rn : Nat) (fl dn wn ba on bb bc cw cx cf : Int32) (i9 : Int32) (g : Nat → Int32) (hr8 : rn ≤ 16384) : zx_K l zB D zcl (zt cB cI cL) y_MO_word b_MO_word 5 (some .long) [] 0 0 (zr 1 0 0) [.ref ma, .int i9] [(ma, .inr (5, [.int fl, .ref tp, .int (nI tn), .ref rp, .int (nI rn), .ref dp, .int dn, .ref wp, .int wn, .int ba, .ref op, .int on, .ref bp, .ref lp, .ref ep, .int bb, .int bc, .int cw, .int cx, .int cf, .ref kp])), (rp, .inl (cB, 16384, .inl g))] (fun o w => ((i9 < 0 ∨ nI rn ≤ i9) ∧ o = .returned (some (.long 0)) ∧ w = [(ma, .inr (5, [.int 1, .ref tp, .int (nI tn), .ref rp, .int (nI rn), .ref dp, .int dn, .ref wp, .int wn, .int ba, .ref op, .int on, .ref bp, .ref lp, .ref ep, .int bb, .int bc, .int cw, .int cx, .int cf, .ref kp])), (rp, .inl (cB, 16384, .inl g))]) ∨ (∃ i1 : Nat, (i9 = nI i1 ∧ i1 < rn) ∧ o = .returned (some (.long (zwd (zwg g rn i1) 8))) ∧ w = [(ma, .inr (5, [.int 0, .ref tp, .int (nI tn), .ref rp, .int (nI rn), .ref dp, .int dn, .ref wp, .int wn, .int ba, .ref op, .int on, .ref bp, .ref lp, .ref ep, .int bb, .int bc, .int cw, .int cx, .int cf, .ref kp])), (rp, .inl (cB, 16384, .inl g))])) := by
  refine zx_K.mk (Nat.le_of_ble_eq_true rfl) (fun p e s mm below meth c9 C hr hlk ht hnm => ?_)
  refine sg_MO_word0 C hr hlk (fun h => Or.inl ⟨Or.inl h, rfl, rfl⟩) (fun h1 h2 => ?_) (fun h1 h2 => Or.inl ⟨Or.inr (zi_nlt.mp h2), rfl, rfl⟩)
  obtain ⟨i, hi9, hi⟩ := zi_nn h1
  subst hi9
  have hir : i < rn := (nI_ltI hi (by omega)).mp h2
  have loop : ∀ (d k : Nat), k + d = 8 → zx_At p l e (zr 1 0 0) s mm (([.ref ma, .int (nI i)] : List Value)).toArray below meth c9 (zx_Q below s D zcl [(ma, .inr (5, [.int fl, .ref tp, .int (nI tn), .ref rp, .int (nI rn), .ref dp, .int dn, .ref wp, .int wn, .int ba, .ref op, .int on, .ref bp, .ref lp, .ref ep, .int bb, .int bc, .int cw, .int cx, .int cf, .ref kp])), (rp, .inl (cB, 16384, .inl g))] 0 0 (zr 1 0 0) (fun o w => (((nI i) < 0 ∨ nI rn ≤ (nI i)) ∧ o = .returned (some (.long 0)) ∧ w = [(ma, .inr (5, [.int 1, .ref tp, .int (nI tn), .ref rp, .int (nI rn), .ref dp, .int dn, .ref wp, .int wn, .int ba, .ref op, .int on, .ref bp, .ref lp, .ref ep, .int bb, .int bc, .int cw, .int cx, .int cf, .ref kp])), (rp, .inl (cB, 16384, .inl g))]) ∨ (∃ i1 : Nat, ((nI i) = nI i1 ∧ i1 < rn) ∧ o = .returned (some (.long (zwd (zwg g rn i1) 8))) ∧ w = [(ma, .inr (5, [.int 0, .ref tp, .int (nI tn), .ref rp, .int (nI rn), .ref dp, .int dn, .ref wp, .int wn, .int ba, .ref op, .int on, .ref bp, .ref lp, .ref ep, .int bb, .int bc, .int cw, .int cx, .int cf, .ref kp])), (rp, .inl (cB, 16384, .inl g))]))) D zcl (va_A [(ma, .inr (5, [.int fl, .ref tp, .int (nI tn), .ref rp, .int (nI rn), .ref dp, .int dn, .ref wp, .int wn, .int ba, .ref op, .int on, .ref bp, .ref lp, .ref ep, .int bb, .int bc, .int cw, .int cx, .int cf, .ref kp])), (rp, .inl (cB, 16384, .inl g))] s.heap.size) 5 [(0, .ref ma), (1, .int (nI i)), (2, .long (zwd (zwg g rn i) k)), (4, .int (nI (i + k)))] [(ma, .inr (5, [.int (0 : Int32), .ref tp, .int (nI tn), .ref rp, .int (nI rn), .ref dp, .int dn, .ref wp, .int wn, .int ba, .ref op, .int on, .ref bp, .ref lp, .ref ep, .int bb, .int bc, .int cw, .int cx, .int cf, .ref kp])), (rp, .inl (cB, 16384, .inl g))] 0 0 29 [] := by
    intro d
    induction d with
    | zero =>
      intro k hk
      have hk8 : k = 8 := by omega
      subst hk8
      have key : nI (i + 8) ≤ nI (i + 8) := Int32.le_refl _
      exact sg_MO_word29 C hr hlk (nI_addI i 8) (fun _ => Or.inr ⟨i, ⟨rfl, hir⟩, rfl, rfl⟩) (fun z => absurd key z) (fun z => absurd key z) (fun z => absurd key z) (fun z => absurd key z)
    | succ d ih =>
      intro k hk
      have nk : ¬ nI (i + 8) ≤ nI (i + k) := fun z => absurd ((nI_leI (by omega) (by omega)).mp z) (by omega)
      have kk : nI rn ≤ nI (i + k) ↔ rn ≤ i + k := nI_leI (by omega) (by omega)
      have nx : ∀ v, v = zwg g rn i k → zx_At p l e (zr 1 0 0) s mm (([.ref ma, .int (nI i)] : List Value)).toArray below meth c9 (zx_Q below s D zcl [(ma, .inr (5, [.int fl, .ref tp, .int (nI tn), .ref rp, .int (nI rn), .ref dp, .int dn, .ref wp, .int wn, .int ba, .ref op, .int on, .ref bp, .ref lp, .ref ep, .int bb, .int bc, .int cw, .int cx, .int cf, .ref kp])), (rp, .inl (cB, 16384, .inl g))] 0 0 (zr 1 0 0) (fun o w => (((nI i) < 0 ∨ nI rn ≤ (nI i)) ∧ o = .returned (some (.long 0)) ∧ w = [(ma, .inr (5, [.int 1, .ref tp, .int (nI tn), .ref rp, .int (nI rn), .ref dp, .int dn, .ref wp, .int wn, .int ba, .ref op, .int on, .ref bp, .ref lp, .ref ep, .int bb, .int bc, .int cw, .int cx, .int cf, .ref kp])), (rp, .inl (cB, 16384, .inl g))]) ∨ (∃ i1 : Nat, ((nI i) = nI i1 ∧ i1 < rn) ∧ o = .returned (some (.long (zwd (zwg g rn i1) 8))) ∧ w = [(ma, .inr (5, [.int 0, .ref tp, .int (nI tn), .ref rp, .int (nI rn), .ref dp, .int dn, .ref wp, .int wn, .int ba, .ref op, .int on, .ref bp, .ref lp, .ref ep, .int bb, .int bc, .int cw, .int cx, .int cf, .ref kp])), (rp, .inl (cB, 16384, .inl g))]))) D zcl (va_A [(ma, .inr (5, [.int fl, .ref tp, .int (nI tn), .ref rp, .int (nI rn), .ref dp, .int dn, .ref wp, .int wn, .int ba, .ref op, .int on, .ref bp, .ref lp, .ref ep, .int bb, .int bc, .int cw, .int cx, .int cf, .ref kp])), (rp, .inl (cB, 16384, .inl g))] s.heap.size) 5 [(0, .ref ma), (1, .int (nI i)), (2, .long (zwd (zwg g rn i) k)), (4, .int (nI (i + k)))] [(ma, .inr (5, [.int (0 : Int32), .ref tp, .int (nI tn), .ref rp, .int (nI rn), .ref dp, .int dn, .ref wp, .int wn, .int ba, .ref op, .int on, .ref bp, .ref lp, .ref ep, .int bb, .int bc, .int cw, .int cx, .int cf, .ref kp])), (rp, .inl (cB, 16384, .inl g))] 0 0 67 [.int (nI v), .long (zwd (zwg g rn i) k * (256 : Int64))] := fun v hv => by
        subst hv
        exact sg_MO_word67 (y9 := zwd (zwg g rn i) (k + 1)) C rfl (nI_1 _) (ih (k + 1) (by omega))
      refine sg_MO_word29 C hr hlk (nI_addI i 8) (fun z => absurd z nk) (fun _ z => ?_) (fun _ z => ⟨rfl, by have := mt kk.mpr z; omega⟩) (fun _ z => zu_and _) (fun _ z => ?_)
      · exact nx 0 (by rw [zwg, if_neg (by have := kk.mp z; omega)])
      · exact nx (zu (g (i + k))) (by rw [zwg, if_pos (by have := mt kk.mpr z; omega)])
  exact loop 8 0 rfl
