set_option maxRecDepth 100000 in
set_option maxHeartbeats 4000000 in
theorem sg_MO_put {p : Program} {l : Launch} {e : Env} {R : Room} {s : State} {mi : MethodId} {args : Array Value} {below : List Frame} {meth : Method} {co : Code} {D : va_G} {cB cI cL : ClassId} {w0 : va_W} {kr nr : Nat} {post : Outcome → va_W → Prop} (C : zx_C p s mi args co b_MO_put 2 R_MO zB D zcl (zt cB cI cL) (va_A w0 s.heap.size)) {ma tp rp dp wp op bp lp ep kp tn rn n v : Nat} {fl dn wn ba bb bc cw cx cf : Int32} {ou : Nat → Int32} (hr9 : meth.sig.returnType = none) (hlk9 : meth.locks = false) (e26 : (¬ (nI n) = (65536 : Int32)) → ((nI v).toInt8.toInt32) = (zby v)) (b27 : (¬ (nI n) = (65536 : Int32)) → (nI n) = nI n ∧ n < 65536) (e34 : (¬ (nI n) = (65536 : Int32)) → ((nI n) + (1 : Int32)) = (nI (n + 1))) (r38 : (¬ (nI n) = (65536 : Int32)) → post (.returned none) [(ma, .inr (5, [.int fl, .ref tp, .int (nI tn), .ref rp, .int (nI rn), .ref dp, .int dn, .ref wp, .int wn, .int ba, .ref op, .int (nI (n + 1)), .ref bp, .ref lp, .ref ep, .int bb, .int bc, .int cw, .int cx, .int cf, .ref kp])), (op, .inl (cB, 65536, .inl (upd ou n (vp_nar .byte (zby v)))))]) (k9 : ((nI n) = (65536 : Int32)) → zx_At p l e R s mi args below meth co (zx_Q below s D zcl w0 kr nr R post) D zcl (va_A w0 s.heap.size) 2 [(0, .ref ma), (1, .int (nI v))] [(ma, .inr (5, [.int fl, .ref tp, .int (nI tn), .ref rp, .int (nI rn), .ref dp, .int dn, .ref wp, .int wn, .int ba, .ref op, .int (nI n), .ref bp, .ref lp, .ref ep, .int bb, .int bc, .int cw, .int cx, .int cf, .ref kp])), (op, .inl (cB, 65536, .inl ou))] 0 0 9 []) : zx_At p l e R s mi args below meth co (zx_Q below s D zcl w0 kr nr R post) D zcl (va_A w0 s.heap.size) 2 [(0, .ref ma), (1, .int (nI v))] [(ma, .inr (5, [.int fl, .ref tp, .int (nI tn), .ref rp, .int (nI rn), .ref dp, .int dn, .ref wp, .int wn, .int ba, .ref op, .int (nI n), .ref bp, .ref lp, .ref ep, .int bb, .int bc, .int cw, .int cx, .int cf, .ref kp])), (op, .inl (cB, 65536, .inl ou))] 0 0 0 [] := by
  refine zx_aload_n (pc := 0) C d_MO_put_0 rfl 0 rfl ?_
  refine zx_get (pc := 1) (ci := 5) (Cn := R_MO) (T := T_MO) (N := 21) (v := .int (nI n)) C zu_MO 0 rfl rfl 11 (by decide) zw_714 rfl rfl d_MO_put_1 ?_
  refine zx_ldc (pc := 4) C zw_701 d_MO_put_4 ?_
  refine zx_icmp_ne (pc := 6) C 17 d_MO_put_6 (by decide) (fun c6 => ?_) (fun c6 => ?_)
  · refine zx_aload_n (pc := 17) C d_MO_put_17 rfl 0 rfl ?_
    refine zx_get (pc := 18) (ci := 5) (Cn := R_MO) (T := T_MO) (N := 21) (v := .ref op) C zu_MO 0 rfl rfl 10 (by decide) zw_713 rfl rfl d_MO_put_18 ?_
    refine zx_aload_n (pc := 21) C d_MO_put_21 rfl 0 rfl ?_
    refine zx_get (pc := 22) (ci := 5) (Cn := R_MO) (T := T_MO) (N := 21) (v := .int (nI n)) C zu_MO 0 rfl rfl 11 (by decide) zw_714 rfl rfl d_MO_put_22 ?_
    refine zx_iload_n (pc := 25) C d_MO_put_25 rfl 1 rfl ?_
    refine zx_i2b (pc := 26) C d_MO_put_26 rfl ?_
    refine zx_seti (zby v) (e26 c6) ?_
    refine zx_bast (pc := 27) (ws' := [(ma, .inr (5, [.int fl, .ref tp, .int (nI tn), .ref rp, .int (nI rn), .ref dp, .int dn, .ref wp, .int wn, .int ba, .ref op, .int (nI n), .ref bp, .ref lp, .ref ep, .int bb, .int bc, .int cw, .int cx, .int cf, .ref kp])), (op, .inl (cB, 65536, .inl (upd ou n (vp_nar .byte (zby v)))))]) C 1 0 rfl rfl n (b27 c6).1 (b27 c6).2 (by decide) rfl d_MO_put_27 ?_
    refine zx_aload_n (pc := 28) C d_MO_put_28 rfl 0 rfl ?_
    refine zx_dup (pc := 29) C d_MO_put_29 rfl ?_
    refine zx_get (pc := 30) (ci := 5) (Cn := R_MO) (T := T_MO) (N := 21) (v := .int (nI n)) C zu_MO 0 rfl rfl 11 (by decide) zw_714 rfl rfl d_MO_put_30 ?_
    refine zx_iconst (pc := 33) C d_MO_put_33 (v := (1 : Int32)) (by decide) ?_
    refine zx_iadd (pc := 34) C d_MO_put_34 ?_
    refine zx_seti (nI (n + 1)) (e34 c6) ?_
    refine zx_put (pc := 35) (ci := 5) (Cn := R_MO) (T := T_MO) (N := 21) (v := .int (nI (n + 1))) (ty := .int) (ws' := [(ma, .inr (5, [.int fl, .ref tp, .int (nI tn), .ref rp, .int (nI rn), .ref dp, .int dn, .ref wp, .int wn, .int ba, .ref op, .int (nI (n + 1)), .ref bp, .ref lp, .ref ep, .int bb, .int bc, .int cw, .int cx, .int cf, .ref kp])), (op, .inl (cB, 65536, .inl (upd ou n (vp_nar .byte (zby v)))))]) C zu_MO ty_MO tyk_MO nm_MO 0 rfl rfl 11 (by decide) zw_714 rfl rfl (by decide +kernel) rfl rfl (Nat.le_of_ble_eq_true rfl) rfl d_MO_put_35 ?_
    exact zx_vret (pc := 38) C hr9 hlk9 (Nat.zero_le _) (Nat.zero_le _) d_MO_put_38 (r38 c6)
  · exact k9 c6

theorem k_MO_put (l : Launch) (D : va_G) (cB cI cL : ClassId) (R : Room) (ma tp rp dp wp op bp lp ep kp tn rn n v : Nat) (fl dn wn ba bb bc cw cx cf : Int32) (ou : Nat → Int32) (hn : n < 65536) : zx_K l zB D zcl (zt cB cI cL) y_MO_put b_MO_put 2 (none) [] 0 0 R [.ref ma, .int (nI v)] [(ma, .inr (5, [.int fl, .ref tp, .int (nI tn), .ref rp, .int (nI rn), .ref dp, .int dn, .ref wp, .int wn, .int ba, .ref op, .int (nI n), .ref bp, .ref lp, .ref ep, .int bb, .int bc, .int cw, .int cx, .int cf, .ref kp])), (op, .inl (cB, 65536, .inl ou))] (fun o w => o = .returned none ∧ w = [(ma, .inr (5, [.int fl, .ref tp, .int (nI tn), .ref rp, .int (nI rn), .ref dp, .int dn, .ref wp, .int wn, .int ba, .ref op, .int (nI (n + 1)), .ref bp, .ref lp, .ref ep, .int bb, .int bc, .int cw, .int cx, .int cf, .ref kp])), (op, .inl (cB, 65536, .inl (upd ou n (zby v))))]) := by
  refine zx_K.mk (Nat.le_of_ble_eq_true rfl) (fun p e s mm below meth c9 C hr hlk ht hnm => ?_)
  have key : ¬ nI n = (65536 : Int32) := fun z => by have := (zp_eq (k := 65536) rfl (by omega) (by decide)).mp z; omega
  refine sg_MO_put C hr hlk (fun _ => rfl) (fun _ => ⟨rfl, by omega⟩) (fun _ => nI_1 n) (fun _ => ⟨rfl, ?_⟩) (fun z => absurd z key)
  rw [zby_nar]
set_option maxRecDepth 100000 in
set_option maxHeartbeats 4000000 in
theorem sg_MO_flush {p : Program} {l : Launch} {e : Env} {s : State} {mi : MethodId} {args : Array Value} {below : List Frame} {meth : Method} {co : Code} {D : va_G} {cB cI cL : ClassId} {w0 : va_W} {kr nr : Nat} {post : Outcome → va_W → Prop} (C : zx_C p s mi args co b_MO_flush 1 R_MO zB D zcl (zt cB cI cL) (va_A w0 s.heap.size)) {ma tp rp dp wp op bp lp ep kp tn rn n v wb : Nat} {fl dn wn ba cw cx cf : Int32} {ou : Nat → Int32} (hn : ¬ nI wb = 0 → n < 65536) (hr9 : meth.sig.returnType = none) (hlk9 : meth.locks = false) (r26 : (¬ (nI wb) = 0) → post (.returned none) [(ma, .inr (5, [.int fl, .ref tp, .int (nI tn), .ref rp, .int (nI rn), .ref dp, .int dn, .ref wp, .int wn, .int ba, .ref op, .int (nI (n + 1)), .ref bp, .ref lp, .ref ep, .int (0 : Int32), .int (0 : Int32), .int cw, .int cx, .int cf, .ref kp])), (op, .inl (cB, 65536, .inl (upd ou n (zby v))))]) (r7 : ((nI wb) = 0) → post (.returned none) [(ma, .inr (5, [.int fl, .ref tp, .int (nI tn), .ref rp, .int (nI rn), .ref dp, .int dn, .ref wp, .int wn, .int ba, .ref op, .int (nI n), .ref bp, .ref lp, .ref ep, .int (nI v), .int (nI wb), .int cw, .int cx, .int cf, .ref kp])), (op, .inl (cB, 65536, .inl ou))]) : zx_At p l e (zr 1 0 0) s mi args below meth co (zx_Q below s D zcl w0 kr nr (zr 1 0 0) post) D zcl (va_A w0 s.heap.size) 1 [(0, .ref ma)] [(ma, .inr (5, [.int fl, .ref tp, .int (nI tn), .ref rp, .int (nI rn), .ref dp, .int dn, .ref wp, .int wn, .int ba, .ref op, .int (nI n), .ref bp, .ref lp, .ref ep, .int (nI v), .int (nI wb), .int cw, .int cx, .int cf, .ref kp])), (op, .inl (cB, 65536, .inl ou))] 0 0 0 [] := by
  refine zx_aload_n (pc := 0) C d_MO_flush_0 rfl 0 rfl ?_
  refine zx_get (pc := 1) (ci := 5) (Cn := R_MO) (T := T_MO) (N := 21) (v := .int (nI wb)) C zu_MO 0 rfl rfl 16 (by decide) zw_719 rfl rfl d_MO_flush_1 ?_
  refine zx_if_ne (pc := 4) C 8 d_MO_flush_4 (by decide) (fun c4 => ?_) (fun c4 => ?_)
  · refine zx_aload_n (pc := 8) C d_MO_flush_8 rfl 0 rfl ?_
    refine zx_aload_n (pc := 9) C d_MO_flush_9 rfl 0 rfl ?_
    refine zx_get (pc := 10) (ci := 5) (Cn := R_MO) (T := T_MO) (N := 21) (v := .int (nI v)) C zu_MO 0 rfl rfl 15 (by decide) zw_718 rfl rfl d_MO_flush_10 ?_
    refine zx_callV (pc := 13) (ix := 86) (As := [.int (nI v)]) (b := ma) (q0 := 0) (wr := []) (st := []) C (zx_cw.of (C.w zw_838)) (by decide +kernel) ⟨by decide +kernel, by decide +kernel⟩ zw_837 zs_MO_put zw_835 rfl rfl rfl rfl rfl (k_MO_put l D cB cI cL (zr 0 0 0) ma tp rp dp wp op bp lp ep kp tn rn n v fl dn wn ba (nI v) (nI wb) cw cx cf ou (hn c4)) rfl [0, 1] [] rfl rfl (by decide) (by decide) (by decide) (Nat.le_of_ble_eq_true rfl) (Nat.le_of_ble_eq_true rfl) (Nat.le_of_ble_eq_true rfl) (Nat.le_of_ble_eq_true rfl) d_MO_flush_13 (fun o w1 hp => ?_)
    obtain ⟨rfl, rfl⟩ := hp
    refine zx_rv (k2 := 0) (n2 := 0) rfl rfl ?_
    refine zx_ws (ws' := [(ma, .inr (5, [.int fl, .ref tp, .int (nI tn), .ref rp, .int (nI rn), .ref dp, .int dn, .ref wp, .int wn, .int ba, .ref op, .int (nI (n + 1)), .ref bp, .ref lp, .ref ep, .int (nI v), .int (nI wb), .int cw, .int cx, .int cf, .ref kp])), (op, .inl (cB, 65536, .inl (upd ou n (zby v))))]) [0, 1] (by decide) rfl ?_
    refine zx_aload_n (pc := 16) C d_MO_flush_16 rfl 0 rfl ?_
    refine zx_iconst (pc := 17) C d_MO_flush_17 (v := (0 : Int32)) (by decide) ?_
    refine zx_put (pc := 18) (ci := 5) (Cn := R_MO) (T := T_MO) (N := 21) (v := .int (0 : Int32)) (ty := .int) (ws' := [(ma, .inr (5, [.int fl, .ref tp, .int (nI tn), .ref rp, .int (nI rn), .ref dp, .int dn, .ref wp, .int wn, .int ba, .ref op, .int (nI (n + 1)), .ref bp, .ref lp, .ref ep, .int (0 : Int32), .int (nI wb), .int cw, .int cx, .int cf, .ref kp])), (op, .inl (cB, 65536, .inl (upd ou n (zby v))))]) C zu_MO ty_MO tyk_MO nm_MO 0 rfl rfl 15 (by decide) zw_718 rfl rfl (by decide +kernel) rfl rfl (Nat.le_of_ble_eq_true rfl) rfl d_MO_flush_18 ?_
    refine zx_aload_n (pc := 21) C d_MO_flush_21 rfl 0 rfl ?_
    refine zx_iconst (pc := 22) C d_MO_flush_22 (v := (0 : Int32)) (by decide) ?_
    refine zx_put (pc := 23) (ci := 5) (Cn := R_MO) (T := T_MO) (N := 21) (v := .int (0 : Int32)) (ty := .int) (ws' := [(ma, .inr (5, [.int fl, .ref tp, .int (nI tn), .ref rp, .int (nI rn), .ref dp, .int dn, .ref wp, .int wn, .int ba, .ref op, .int (nI (n + 1)), .ref bp, .ref lp, .ref ep, .int (0 : Int32), .int (0 : Int32), .int cw, .int cx, .int cf, .ref kp])), (op, .inl (cB, 65536, .inl (upd ou n (zby v))))]) C zu_MO ty_MO tyk_MO nm_MO 0 rfl rfl 16 (by decide) zw_719 rfl rfl (by decide +kernel) rfl rfl (Nat.le_of_ble_eq_true rfl) rfl d_MO_flush_23 ?_
    exact zx_vret (pc := 26) C hr9 hlk9 (Nat.zero_le _) (Nat.zero_le _) d_MO_flush_26 (r26 c4)
  · exact zx_vret (pc := 7) C hr9 hlk9 (Nat.zero_le _) (Nat.zero_le _) d_MO_flush_7 (r7 c4)

theorem k_MO_flush (l : Launch) (D : va_G) (cB cI cL : ClassId) (ma tp rp dp wp op bp lp ep kp tn rn n v wb : Nat) (fl dn wn ba cw cx cf : Int32) (ou : Nat → Int32) (hn : wb ≠ 0 → n < 65536) (hwb : wb ≤ 8) : zx_K l zB D zcl (zt cB cI cL) y_MO_flush b_MO_flush 1 (none) [] 0 0 (zr 1 0 0) [.ref ma] [(ma, .inr (5, [.int fl, .ref tp, .int (nI tn), .ref rp, .int (nI rn), .ref dp, .int dn, .ref wp, .int wn, .int ba, .ref op, .int (nI n), .ref bp, .ref lp, .ref ep, .int (nI v), .int (nI wb), .int cw, .int cx, .int cf, .ref kp])), (op, .inl (cB, 65536, .inl ou))] (fun o w => ((wb = 0) ∧ o = .returned none ∧ w = [(ma, .inr (5, [.int fl, .ref tp, .int (nI tn), .ref rp, .int (nI rn), .ref dp, .int dn, .ref wp, .int wn, .int ba, .ref op, .int (nI n), .ref bp, .ref lp, .ref ep, .int (nI v), .int (nI wb), .int cw, .int cx, .int cf, .ref kp])), (op, .inl (cB, 65536, .inl ou))]) ∨ ((wb ≠ 0) ∧ o = .returned none ∧ w = [(ma, .inr (5, [.int fl, .ref tp, .int (nI tn), .ref rp, .int (nI rn), .ref dp, .int dn, .ref wp, .int wn, .int ba, .ref op, .int (nI (n + 1)), .ref bp, .ref lp, .ref ep, .int (nI 0), .int (nI 0), .int cw, .int cx, .int cf, .ref kp])), (op, .inl (cB, 65536, .inl (upd ou n (zby v))))])) := by
  refine zx_K.mk (Nat.le_of_ble_eq_true rfl) (fun p e s mm below meth c9 C hr hlk ht hnm => ?_)
  have key : nI wb = 0 ↔ wb = 0 := zp_eq (k := 0) rfl (by omega) (by decide)
  exact sg_MO_flush C (fun z => hn (fun q => z (key.mpr q))) hr hlk (fun z => Or.inr ⟨fun q => z (key.mpr q), rfl, rfl⟩) (fun z => Or.inl ⟨key.mp z, rfl, rfl⟩)
set_option maxRecDepth 100000 in
set_option maxHeartbeats 4000000 in
theorem sg_MO_pb0 {p : Program} {l : Launch} {e : Env} {R : Room} {s : State} {mi : MethodId} {args : Array Value} {below : List Frame} {meth : Method} {co : Code} {D : va_G} {cB cI cL : ClassId} {Q : State → Prop} {A : Nat → Prop} (C : zx_C p s mi args co b_MO_putBits 4 R_MO zB D zcl (zt cB cI cL) A) {ma tp rp dp wp op bp lp ep kp tn rn n v wb c k : Nat} {fl dn wn ba cw cx cf : Int32} {ou : Nat → Int32} (k2 : zx_At p l e R s mi args below meth co Q D zcl A 4 [(0, .ref ma), (1, .int (nI c)), (2, .int (nI k)), (3, .int (0 : Int32))] [(ma, .inr (5, [.int fl, .ref tp, .int (nI tn), .ref rp, .int (nI rn), .ref dp, .int dn, .ref wp, .int wn, .int ba, .ref op, .int (nI n), .ref bp, .ref lp, .ref ep, .int (nI v), .int (nI wb), .int cw, .int cx, .int cf, .ref kp])), (op, .inl (cB, 65536, .inl ou))] 0 0 2 []) : zx_At p l e R s mi args below meth co Q D zcl A 4 [(0, .ref ma), (1, .int (nI c)), (2, .int (nI k))] [(ma, .inr (5, [.int fl, .ref tp, .int (nI tn), .ref rp, .int (nI rn), .ref dp, .int dn, .ref wp, .int wn, .int ba, .ref op, .int (nI n), .ref bp, .ref lp, .ref ep, .int (nI v), .int (nI wb), .int cw, .int cx, .int cf, .ref kp])), (op, .inl (cB, 65536, .inl ou))] 0 0 0 [] := by
  refine zx_iconst (pc := 0) C d_MO_putBits_0 (v := (0 : Int32)) (by decide) ?_
  refine zx_istore_n (pc := 1) C d_MO_putBits_1 rfl (by decide) (lv' := [(3, .int (0 : Int32)), (0, .ref ma), (1, .int (nI c)), (2, .int (nI k))]) rfl ?_
  refine zx_lv (lv' := [(0, .ref ma), (1, .int (nI c)), (2, .int (nI k)), (3, .int (0 : Int32))]) [1, 2, 3, 0] rfl ?_
  exact k2

set_option maxRecDepth 100000 in
set_option maxHeartbeats 4000000 in
theorem sg_MO_pb2 {p : Program} {l : Launch} {e : Env} {s : State} {mi : MethodId} {args : Array Value} {below : List Frame} {meth : Method} {co : Code} {D : va_G} {cB cI cL : ClassId} {w0 : va_W} {kr nr : Nat} {post : Outcome → va_W → Prop} (C : zx_C p s mi args co b_MO_putBits 4 R_MO zB D zcl (zt cB cI cL) (va_A w0 s.heap.size)) {ma tp rp dp wp op bp lp ep kp tn rn n v wb c k i : Nat} {fl dn wn ba cw cx cf : Int32} {ou : Nat → Int32} (hn : n < 65536) (hw8 : wb + 1 ≤ 8) (hr9 : meth.sig.returnType = none) (hlk9 : meth.locks = false) (r55 : ((nI k) ≤ (nI i)) → post (.returned none) [(ma, .inr (5, [.int fl, .ref tp, .int (nI tn), .ref rp, .int (nI rn), .ref dp, .int dn, .ref wp, .int wn, .int ba, .ref op, .int (nI n), .ref bp, .ref lp, .ref ep, .int (nI v), .int (nI wb), .int cw, .int cx, .int cf, .ref kp])), (op, .inl (cB, 65536, .inl ou))]) (e14 : (¬ (nI k) ≤ (nI i)) → ((nI c) >>> ((nI i) &&& 31)) = (nI (c / 2 ^ i))) (e16 : (¬ (nI k) ≤ (nI i)) → ((nI (c / 2 ^ i)) &&& (1 : Int32)) = (nI (c / 2 ^ i % 2))) (e22 : (¬ (nI k) ≤ (nI i)) → ((nI v) ||| ((nI (c / 2 ^ i % 2)) <<< ((nI wb) &&& 31))) = (nI (v + c / 2 ^ i % 2 * 2 ^ wb))) (e32 : (¬ (nI k) ≤ (nI i)) → ((nI wb) + (1 : Int32)) = (nI (wb + 1))) (e49 : (¬ (nI k) ≤ (nI i)) → (¬ (nI (wb + 1)) = (8 : Int32)) → (nI i) + (1 : Int32) = (nI (i + 1))) (k2 : (¬ (nI k) ≤ (nI i)) → (¬ (nI (wb + 1)) = (8 : Int32)) → zx_At p l e (zr 2 0 0) s mi args below meth co (zx_Q below s D zcl w0 kr nr (zr 2 0 0) post) D zcl (va_A w0 s.heap.size) 4 [(0, .ref ma), (1, .int (nI c)), (2, .int (nI k)), (3, .int (nI (i + 1)))] [(ma, .inr (5, [.int fl, .ref tp, .int (nI tn), .ref rp, .int (nI rn), .ref dp, .int dn, .ref wp, .int wn, .int ba, .ref op, .int (nI n), .ref bp, .ref lp, .ref ep, .int (nI (v + c / 2 ^ i % 2 * 2 ^ wb)), .int (nI (wb + 1)), .int cw, .int cx, .int cf, .ref kp])), (op, .inl (cB, 65536, .inl ou))] 0 0 2 []) (e49_2 : (¬ (nI k) ≤ (nI i)) → ((nI (wb + 1)) = (8 : Int32)) → (wb + 1 = 0) → (nI i) + (1 : Int32) = (nI (i + 1))) (k2_2 : (¬ (nI k) ≤ (nI i)) → ((nI (wb + 1)) = (8 : Int32)) → (wb + 1 = 0) → zx_At p l e (zr 2 0 0) s mi args below meth co (zx_Q below s D zcl w0 kr nr (zr 2 0 0) post) D zcl (va_A w0 s.heap.size) 4 [(0, .ref ma), (1, .int (nI c)), (2, .int (nI k)), (3, .int (nI (i + 1)))] [(ma, .inr (5, [.int fl, .ref tp, .int (nI tn), .ref rp, .int (nI rn), .ref dp, .int dn, .ref wp, .int wn, .int ba, .ref op, .int (nI n), .ref bp, .ref lp, .ref ep, .int (nI (v + c / 2 ^ i % 2 * 2 ^ wb)), .int (nI (wb + 1)), .int cw, .int cx, .int cf, .ref kp])), (op, .inl (cB, 65536, .inl ou))] 0 0 2 []) (e49_3 : (¬ (nI k) ≤ (nI i)) → ((nI (wb + 1)) = (8 : Int32)) → (wb + 1 ≠ 0) → (nI i) + (1 : Int32) = (nI (i + 1))) (k2_3 : (¬ (nI k) ≤ (nI i)) → ((nI (wb + 1)) = (8 : Int32)) → (wb + 1 ≠ 0) → zx_At p l e (zr 2 0 0) s mi args below meth co (zx_Q below s D zcl w0 kr nr (zr 2 0 0) post) D zcl (va_A w0 s.heap.size) 4 [(0, .ref ma), (1, .int (nI c)), (2, .int (nI k)), (3, .int (nI (i + 1)))] [(ma, .inr (5, [.int fl, .ref tp, .int (nI tn), .ref rp, .int (nI rn), .ref dp, .int dn, .ref wp, .int wn, .int ba, .ref op, .int (nI (n + 1)), .ref bp, .ref lp, .ref ep, .int (nI 0), .int (nI 0), .int cw, .int cx, .int cf, .ref kp])), (op, .inl (cB, 65536, .inl (upd ou n (zby (v + c / 2 ^ i % 2 * 2 ^ wb)))))] 0 0 2 []) : zx_At p l e (zr 2 0 0) s mi args below meth co (zx_Q below s D zcl w0 kr nr (zr 2 0 0) post) D zcl (va_A w0 s.heap.size) 4 [(0, .ref ma), (1, .int (nI c)), (2, .int (nI k)), (3, .int (nI i))] [(ma, .inr (5, [.int fl, .ref tp, .int (nI tn), .ref rp, .int (nI rn), .ref dp, .int dn, .ref wp, .int wn, .int ba, .ref op, .int (nI n), .ref bp, .ref lp, .ref ep, .int (nI v), .int (nI wb), .int cw, .int cx, .int cf, .ref kp])), (op, .inl (cB, 65536, .inl ou))] 0 0 2 [] := by
  refine zx_iload_n (pc := 2) C d_MO_putBits_2 rfl 3 rfl ?_
  refine zx_iload_n (pc := 3) C d_MO_putBits_3 rfl 2 rfl ?_
  refine zx_icmp_ge (pc := 4) C 55 d_MO_putBits_4 (by decide) (fun c4 => ?_) (fun c4 => ?_)
  · exact zx_vret (pc := 55) C hr9 hlk9 (Nat.zero_le _) (Nat.zero_le _) d_MO_putBits_55 (r55 c4)
  · refine zx_aload_n (pc := 7) C d_MO_putBits_7 rfl 0 rfl ?_
    refine zx_dup (pc := 8) C d_MO_putBits_8 rfl ?_
    refine zx_get (pc := 9) (ci := 5) (Cn := R_MO) (T := T_MO) (N := 21) (v := .int (nI v)) C zu_MO 0 rfl rfl 15 (by decide) zw_718 rfl rfl d_MO_putBits_9 ?_
    refine zx_iload_n (pc := 12) C d_MO_putBits_12 rfl 1 rfl ?_
    refine zx_iload_n (pc := 13) C d_MO_putBits_13 rfl 3 rfl ?_
    refine zx_ishr (pc := 14) C d_MO_putBits_14 ?_
    refine zx_seti (nI (c / 2 ^ i)) (e14 c4) ?_
    refine zx_iconst (pc := 15) C d_MO_putBits_15 (v := (1 : Int32)) (by decide) ?_
    refine zx_iand (pc := 16) C d_MO_putBits_16 ?_
    refine zx_seti (nI (c / 2 ^ i % 2)) (e16 c4) ?_
    refine zx_aload_n (pc := 17) C d_MO_putBits_17 rfl 0 rfl ?_
    refine zx_get (pc := 18) (ci := 5) (Cn := R_MO) (T := T_MO) (N := 21) (v := .int (nI wb)) C zu_MO 0 rfl rfl 16 (by decide) zw_719 rfl rfl d_MO_putBits_18 ?_
    refine zx_ishl (pc := 21) C d_MO_putBits_21 ?_
    refine zx_ior (pc := 22) C d_MO_putBits_22 ?_
    refine zx_seti (nI (v + c / 2 ^ i % 2 * 2 ^ wb)) (e22 c4) ?_
    refine zx_put (pc := 23) (ci := 5) (Cn := R_MO) (T := T_MO) (N := 21) (v := .int (nI (v + c / 2 ^ i % 2 * 2 ^ wb))) (ty := .int) (ws' := [(ma, .inr (5, [.int fl, .ref tp, .int (nI tn), .ref rp, .int (nI rn), .ref dp, .int dn, .ref wp, .int wn, .int ba, .ref op, .int (nI n), .ref bp, .ref lp, .ref ep, .int (nI (v + c / 2 ^ i % 2 * 2 ^ wb)), .int (nI wb), .int cw, .int cx, .int cf, .ref kp])), (op, .inl (cB, 65536, .inl ou))]) C zu_MO ty_MO tyk_MO nm_MO 0 rfl rfl 15 (by decide) zw_718 rfl rfl (by decide +kernel) rfl rfl (Nat.le_of_ble_eq_true rfl) rfl d_MO_putBits_23 ?_
    refine zx_aload_n (pc := 26) C d_MO_putBits_26 rfl 0 rfl ?_
    refine zx_dup (pc := 27) C d_MO_putBits_27 rfl ?_
    refine zx_get (pc := 28) (ci := 5) (Cn := R_MO) (T := T_MO) (N := 21) (v := .int (nI wb)) C zu_MO 0 rfl rfl 16 (by decide) zw_719 rfl rfl d_MO_putBits_28 ?_
    refine zx_iconst (pc := 31) C d_MO_putBits_31 (v := (1 : Int32)) (by decide) ?_
    refine zx_iadd (pc := 32) C d_MO_putBits_32 ?_
    refine zx_seti (nI (wb + 1)) (e32 c4) ?_
    refine zx_put (pc := 33) (ci := 5) (Cn := R_MO) (T := T_MO) (N := 21) (v := .int (nI (wb + 1))) (ty := .int) (ws' := [(ma, .inr (5, [.int fl, .ref tp, .int (nI tn), .ref rp, .int (nI rn), .ref dp, .int dn, .ref wp, .int wn, .int ba, .ref op, .int (nI n), .ref bp, .ref lp, .ref ep, .int (nI (v + c / 2 ^ i % 2 * 2 ^ wb)), .int (nI (wb + 1)), .int cw, .int cx, .int cf, .ref kp])), (op, .inl (cB, 65536, .inl ou))]) C zu_MO ty_MO tyk_MO nm_MO 0 rfl rfl 16 (by decide) zw_719 rfl rfl (by decide +kernel) rfl rfl (Nat.le_of_ble_eq_true rfl) rfl d_MO_putBits_33 ?_
    refine zx_aload_n (pc := 36) C d_MO_putBits_36 rfl 0 rfl ?_
    refine zx_get (pc := 37) (ci := 5) (Cn := R_MO) (T := T_MO) (N := 21) (v := .int (nI (wb + 1))) C zu_MO 0 rfl rfl 16 (by decide) zw_719 rfl rfl d_MO_putBits_37 ?_
    refine zx_bipush (pc := 40) C d_MO_putBits_40 (v := (8 : Int32)) (by decide) ?_
    refine zx_icmp_ne (pc := 42) C 49 d_MO_putBits_42 (by decide) (fun c42 => ?_) (fun c42 => ?_)
    · refine zx_iinc (pc := 49) C d_MO_putBits_49 3 rfl (v := (nI (i + 1))) (e49 c4 c42) (by decide) (lv' := [(3, .int (nI (i + 1))), (0, .ref ma), (1, .int (nI c)), (2, .int (nI k))]) rfl ?_
      refine zx_goto (pc := 52) C 2 d_MO_putBits_52 (by decide) ?_
      refine zx_lv (lv' := [(0, .ref ma), (1, .int (nI c)), (2, .int (nI k)), (3, .int (nI (i + 1)))]) [1, 2, 3, 0] rfl ?_
      exact k2 c4 c42
    · refine zx_aload_n (pc := 45) C d_MO_putBits_45 rfl 0 rfl ?_
      refine zx_callV (pc := 46) (ix := 83) (As := []) (b := ma) (q0 := 0) (wr := []) (st := []) C (zx_cw.of (C.w zw_834)) (by decide +kernel) ⟨by decide +kernel, by decide +kernel⟩ zw_833 zs_MO_flush zw_831 rfl rfl rfl rfl rfl (k_MO_flush l D cB cI cL ma tp rp dp wp op bp lp ep kp tn rn n (v + c / 2 ^ i % 2 * 2 ^ wb) (wb + 1) fl dn wn ba cw cx cf ou (fun _ => hn) hw8) rfl [0, 1] [] rfl rfl (by decide) (by decide) (by decide) (Nat.le_of_ble_eq_true rfl) (Nat.le_of_ble_eq_true rfl) (Nat.le_of_ble_eq_true rfl) (Nat.le_of_ble_eq_true rfl) d_MO_putBits_46 (fun o w1 hp => ?_)
      rcases hp with ⟨hc46, rfl, rfl⟩ | ⟨hc46, rfl, rfl⟩
      · refine zx_rv (k2 := 0) (n2 := 0) rfl rfl ?_
        refine zx_ws (ws' := [(ma, .inr (5, [.int fl, .ref tp, .int (nI tn), .ref rp, .int (nI rn), .ref dp, .int dn, .ref wp, .int wn, .int ba, .ref op, .int (nI n), .ref bp, .ref lp, .ref ep, .int (nI (v + c / 2 ^ i % 2 * 2 ^ wb)), .int (nI (wb + 1)), .int cw, .int cx, .int cf, .ref kp])), (op, .inl (cB, 65536, .inl ou))]) [0, 1] (by decide) rfl ?_
        refine zx_iinc (pc := 49) C d_MO_putBits_49 3 rfl (v := (nI (i + 1))) (e49_2 c4 c42 hc46) (by decide) (lv' := [(3, .int (nI (i + 1))), (0, .ref ma), (1, .int (nI c)), (2, .int (nI k))]) rfl ?_
        refine zx_goto (pc := 52) C 2 d_MO_putBits_52 (by decide) ?_
        refine zx_lv (lv' := [(0, .ref ma), (1, .int (nI c)), (2, .int (nI k)), (3, .int (nI (i + 1)))]) [1, 2, 3, 0] rfl ?_
        exact k2_2 c4 c42 hc46
      · refine zx_rv (k2 := 0) (n2 := 0) rfl rfl ?_
        refine zx_ws (ws' := [(ma, .inr (5, [.int fl, .ref tp, .int (nI tn), .ref rp, .int (nI rn), .ref dp, .int dn, .ref wp, .int wn, .int ba, .ref op, .int (nI (n + 1)), .ref bp, .ref lp, .ref ep, .int (nI 0), .int (nI 0), .int cw, .int cx, .int cf, .ref kp])), (op, .inl (cB, 65536, .inl (upd ou n (zby (v + c / 2 ^ i % 2 * 2 ^ wb)))))]) [0, 1] (by decide) rfl ?_
        refine zx_iinc (pc := 49) C d_MO_putBits_49 3 rfl (v := (nI (i + 1))) (e49_3 c4 c42 hc46) (by decide) (lv' := [(3, .int (nI (i + 1))), (0, .ref ma), (1, .int (nI c)), (2, .int (nI k))]) rfl ?_
        refine zx_goto (pc := 52) C 2 d_MO_putBits_52 (by decide) ?_
        refine zx_lv (lv' := [(0, .ref ma), (1, .int (nI c)), (2, .int (nI k)), (3, .int (nI (i + 1)))]) [1, 2, 3, 0] rfl ?_
        exact k2_3 c4 c42 hc46

theorem zc_bit (c i : Nat) : c % 2 ^ (i + 1) = c % 2 ^ i + c / 2 ^ i % 2 * 2 ^ i := by
  rw [Nat.pow_succ, Nat.mod_mul, Nat.mul_comm (2 ^ i)]
theorem zS_bit {f : Nat → Int32} {n v wb V P c i : Nat} (h : zS f n v wb (V + c % 2 ^ i * 2 ^ P) (P + i)) : zS f n (v + c / 2 ^ i % 2 * 2 ^ wb) (wb + 1) (V + c % 2 ^ (i + 1) * 2 ^ P) (P + (i + 1)) := by
  have h1 := zS_put h (c := c / 2 ^ i % 2) (k := 1) (Nat.mod_lt _ (by decide))
  rw [zc_bit, Nat.add_mul, Nat.mul_assoc (c / 2 ^ i % 2), ← Nat.pow_add, Nat.add_comm i P, ← Nat.add_assoc]
  exact h1
theorem k_MO_putBits (l : Launch) (D : va_G) (cB cI cL : ClassId) (ma tp rp dp wp op bp lp ep kp tn rn n v wb c k V P : Nat) (fl dn wn ba cw cx cf : Int32) (ou : Nat → Int32) (h : zS ou n v wb V P) (hwb : wb < 8) (hc : c < 2 ^ k) (hk : k ≤ 12) (hP : P + k < 524288) : zx_K l zB D zcl (zt cB cI cL) y_MO_putBits b_MO_putBits 4 (none) [] 0 0 (zr 2 0 0) [.ref ma, .int (nI c), .int (nI k)] [(ma, .inr (5, [.int fl, .ref tp, .int (nI tn), .ref rp, .int (nI rn), .ref dp, .int dn, .ref wp, .int wn, .int ba, .ref op, .int (nI n), .ref bp, .ref lp, .ref ep, .int (nI v), .int (nI wb), .int cw, .int cx, .int cf, .ref kp])), (op, .inl (cB, 65536, .inl ou))] (fun o w => ∃ (f2 : Nat → Int32) (n2 v2 w2 : Nat), (zS f2 n2 v2 w2 (V + c * 2 ^ P) (P + k) ∧ w2 < 8) ∧ o = .returned none ∧ w = [(ma, .inr (5, [.int fl, .ref tp, .int (nI tn), .ref rp, .int (nI rn), .ref dp, .int dn, .ref wp, .int wn, .int ba, .ref op, .int (nI n2), .ref bp, .ref lp, .ref ep, .int (nI v2), .int (nI w2), .int cw, .int cx, .int cf, .ref kp])), (op, .inl (cB, 65536, .inl f2))]) := by
  refine zx_K.mk (Nat.le_of_ble_eq_true rfl) (fun p e s mm below meth c9 C hr hlk ht hnm => ?_)
  have hck : c % 2 ^ k = c := Nat.mod_eq_of_lt hc
  have hp12 := zp_pow12 hk
  have loop : ∀ (d i : Nat) (f1 : Nat → Int32) (n1 v1 w1 : Nat), i + d = k → zS f1 n1 v1 w1 (V + c % 2 ^ i * 2 ^ P) (P + i) → w1 < 8 → zx_At p l e (zr 2 0 0) s mm (([.ref ma, .int (nI c), .int (nI k)] : List Value)).toArray below meth c9 (zx_Q below s D zcl [(ma, .inr (5, [.int fl, .ref tp, .int (nI tn), .ref rp, .int (nI rn), .ref dp, .int dn, .ref wp, .int wn, .int ba, .ref op, .int (nI n), .ref bp, .ref lp, .ref ep, .int (nI v), .int (nI wb), .int cw, .int cx, .int cf, .ref kp])), (op, .inl (cB, 65536, .inl ou))] 0 0 (zr 2 0 0) (fun o w => ∃ (f2 : Nat → Int32) (n2 v2 w2 : Nat), (zS f2 n2 v2 w2 (V + c * 2 ^ P) (P + k) ∧ w2 < 8) ∧ o = .returned none ∧ w = [(ma, .inr (5, [.int fl, .ref tp, .int (nI tn), .ref rp, .int (nI rn), .ref dp, .int dn, .ref wp, .int wn, .int ba, .ref op, .int (nI n2), .ref bp, .ref lp, .ref ep, .int (nI v2), .int (nI w2), .int cw, .int cx, .int cf, .ref kp])), (op, .inl (cB, 65536, .inl f2))])) D zcl (va_A [(ma, .inr (5, [.int fl, .ref tp, .int (nI tn), .ref rp, .int (nI rn), .ref dp, .int dn, .ref wp, .int wn, .int ba, .ref op, .int (nI n), .ref bp, .ref lp, .ref ep, .int (nI v), .int (nI wb), .int cw, .int cx, .int cf, .ref kp])), (op, .inl (cB, 65536, .inl ou))] s.heap.size) 4 [(0, .ref ma), (1, .int (nI c)), (2, .int (nI k)), (3, .int (nI i))] [(ma, .inr (5, [.int fl, .ref tp, .int (nI tn), .ref rp, .int (nI rn), .ref dp, .int dn, .ref wp, .int wn, .int ba, .ref op, .int (nI n1), .ref bp, .ref lp, .ref ep, .int (nI v1), .int (nI w1), .int cw, .int cx, .int cf, .ref kp])), (op, .inl (cB, 65536, .inl f1))] 0 0 2 [] := by
    intro d
    induction d with
    | zero =>
      intro i f1 n1 v1 w1 hi hz hw
      have hik : i = k := by omega
      subst hik
      have key : nI i ≤ nI i := Int32.le_refl _
      have h1 := hz.1
      rw [hck] at hz
      refine sg_MO_pb2 C (by omega) (by omega) hr hlk (fun _ => ⟨f1, n1, v1, w1, ⟨hz, hw⟩, rfl, rfl⟩) (fun z => absurd key z) (fun z => absurd key z) (fun z => absurd key z) (fun z => absurd key z) (fun z => absurd key z) (fun z => absurd key z) (fun z => absurd key z) (fun z => absurd key z) (fun z => absurd key z) (fun z => absurd key z)
    | succ d ih =>
      intro i f1 n1 v1 w1 hi hz hw
      have nk : ¬ nI k ≤ nI i := fun z => absurd ((nI_leI (by omega) (by omega)).mp z) (by omega)
      have h8 : nI (w1 + 1) = (8 : Int32) ↔ w1 + 1 = 8 := zp_eq (k := 8) rfl (by omega) (by decide)
      have hz2 := zS_bit hz
      have h1 := hz.1
      have hv := zS_v hz
      refine sg_MO_pb2 C (by omega) (by omega) hr hlk (fun z => absurd z nk) (fun _ => zp_shr (by omega) (by omega)) (fun _ => pk_andN (Nat.lt_of_le_of_lt (Nat.div_le_self _ _) (by omega)) 1 (by decide)) (fun _ => zp_or hv (by omega)) (fun _ => nI_1 _) (fun _ _ => nI_1 i) (fun _ z => ih (i + 1) _ _ _ _ (by omega) hz2 (by have := mt h8.mpr z; omega)) (fun _ _ q => absurd q (by omega)) (fun _ _ q => absurd q (by omega)) (fun _ _ _ => nI_1 i) (fun _ z _ => ?_)
      have hw8 := h8.mp z
      rw [hw8] at hz2
      have hz3 := zS_step hz2 (Nat.le_refl 8)
      have hv2 := zS_v hz2
      rw [Nat.div_eq_of_lt (show _ < 256 from hv2)] at hz3
      exact ih (i + 1) _ _ _ _ (by omega) hz3 (by decide)
  exact sg_MO_pb0 C (loop k 0 ou n v wb (by omega) (by rw [Nat.pow_zero, Nat.mod_one, Nat.zero_mul]; exact h) hwb)
set_option maxRecDepth 100000 in
set_option maxHeartbeats 4000000 in
theorem sg_MO_begin {p : Program} {l : Launch} {e : Env} {R : Room} {s : State} {mi : MethodId} {args : Array Value} {below : List Frame} {meth : Method} {co : Code} {D : va_G} {cB cI cL : ClassId} {w0 : va_W} {kr nr : Nat} {post : Outcome → va_W → Prop} (C : zx_C p s mi args co b_MO_begin 2 R_MO zB D zcl (zt cB cI cL) (va_A w0 s.heap.size)) {ma tp rp dp wp op bp lp ep kp tn rn m : Nat} {fl dn wn ba on bb bc cw cx cf : Int32} (hr9 : meth.sig.returnType = none) (hlk9 : meth.locks = false) (e3 : ((nI m) + (1 : Int32)) = (nI (m + 1))) (e10 : ((1 : Int32) <<< ((nI m) &&& 31)) = (nI (2 ^ m))) (e12 : ((nI (2 ^ m)) + (2 : Int32)) = (nI (2 ^ m + 2))) (r21 : post (.returned none) [(ma, .inr (5, [.int fl, .ref tp, .int (nI tn), .ref rp, .int (nI rn), .ref dp, .int dn, .ref wp, .int wn, .int ba, .ref op, .int on, .ref bp, .ref lp, .ref ep, .int bb, .int bc, .int (nI (m + 1)), .int (nI (2 ^ m + 2)), .int (1 : Int32), .ref kp]))]) : zx_At p l e R s mi args below meth co (zx_Q below s D zcl w0 kr nr R post) D zcl (va_A w0 s.heap.size) 2 [(0, .ref ma), (1, .int (nI m))] [(ma, .inr (5, [.int fl, .ref tp, .int (nI tn), .ref rp, .int (nI rn), .ref dp, .int dn, .ref wp, .int wn, .int ba, .ref op, .int on, .ref bp, .ref lp, .ref ep, .int bb, .int bc, .int cw, .int cx, .int cf, .ref kp]))] 0 0 0 [] := by
  refine zx_aload_n (pc := 0) C d_MO_begin_0 rfl 0 rfl ?_
  refine zx_iload_n (pc := 1) C d_MO_begin_1 rfl 1 rfl ?_
  refine zx_iconst (pc := 2) C d_MO_begin_2 (v := (1 : Int32)) (by decide) ?_
  refine zx_iadd (pc := 3) C d_MO_begin_3 ?_
  refine zx_seti (nI (m + 1)) (e3) ?_
  refine zx_put (pc := 4) (ci := 5) (Cn := R_MO) (T := T_MO) (N := 21) (v := .int (nI (m + 1))) (ty := .int) (ws' := [(ma, .inr (5, [.int fl, .ref tp, .int (nI tn), .ref rp, .int (nI rn), .ref dp, .int dn, .ref wp, .int wn, .int ba, .ref op, .int on, .ref bp, .ref lp, .ref ep, .int bb, .int bc, .int (nI (m + 1)), .int cx, .int cf, .ref kp]))]) C zu_MO ty_MO tyk_MO nm_MO 0 rfl rfl 17 (by decide) zw_720 rfl rfl (by decide +kernel) rfl rfl (Nat.le_of_ble_eq_true rfl) rfl d_MO_begin_4 ?_
  refine zx_aload_n (pc := 7) C d_MO_begin_7 rfl 0 rfl ?_
  refine zx_iconst (pc := 8) C d_MO_begin_8 (v := (1 : Int32)) (by decide) ?_
  refine zx_iload_n (pc := 9) C d_MO_begin_9 rfl 1 rfl ?_
  refine zx_ishl (pc := 10) C d_MO_begin_10 ?_
  refine zx_seti (nI (2 ^ m)) (e10) ?_
  refine zx_iconst (pc := 11) C d_MO_begin_11 (v := (2 : Int32)) (by decide) ?_
  refine zx_iadd (pc := 12) C d_MO_begin_12 ?_
  refine zx_seti (nI (2 ^ m + 2)) (e12) ?_
  refine zx_put (pc := 13) (ci := 5) (Cn := R_MO) (T := T_MO) (N := 21) (v := .int (nI (2 ^ m + 2))) (ty := .int) (ws' := [(ma, .inr (5, [.int fl, .ref tp, .int (nI tn), .ref rp, .int (nI rn), .ref dp, .int dn, .ref wp, .int wn, .int ba, .ref op, .int on, .ref bp, .ref lp, .ref ep, .int bb, .int bc, .int (nI (m + 1)), .int (nI (2 ^ m + 2)), .int cf, .ref kp]))]) C zu_MO ty_MO tyk_MO nm_MO 0 rfl rfl 18 (by decide) zw_721 rfl rfl (by decide +kernel) rfl rfl (Nat.le_of_ble_eq_true rfl) rfl d_MO_begin_13 ?_
  refine zx_aload_n (pc := 16) C d_MO_begin_16 rfl 0 rfl ?_
  refine zx_iconst (pc := 17) C d_MO_begin_17 (v := (1 : Int32)) (by decide) ?_
  refine zx_put (pc := 18) (ci := 5) (Cn := R_MO) (T := T_MO) (N := 21) (v := .int (1 : Int32)) (ty := .boolean) (ws' := [(ma, .inr (5, [.int fl, .ref tp, .int (nI tn), .ref rp, .int (nI rn), .ref dp, .int dn, .ref wp, .int wn, .int ba, .ref op, .int on, .ref bp, .ref lp, .ref ep, .int bb, .int bc, .int (nI (m + 1)), .int (nI (2 ^ m + 2)), .int (1 : Int32), .ref kp]))]) C zu_MO ty_MO tyk_MO nm_MO 0 rfl rfl 19 (by decide) zw_722 rfl rfl (by decide +kernel) (by decide) (by decide) (Nat.le_of_ble_eq_true rfl) rfl d_MO_begin_18 ?_
  exact zx_vret (pc := 21) C hr9 hlk9 (Nat.zero_le _) (Nat.zero_le _) d_MO_begin_21 (r21)

theorem k_MO_begin (l : Launch) (D : va_G) (cB cI cL : ClassId) (R : Room) (ma tp rp dp wp op bp lp ep kp tn rn m : Nat) (fl dn wn ba on bb bc cw cx cf : Int32) (hm : m ≤ 8) : zx_K l zB D zcl (zt cB cI cL) y_MO_begin b_MO_begin 2 (none) [] 0 0 R [.ref ma, .int (nI m)] [(ma, .inr (5, [.int fl, .ref tp, .int (nI tn), .ref rp, .int (nI rn), .ref dp, .int dn, .ref wp, .int wn, .int ba, .ref op, .int on, .ref bp, .ref lp, .ref ep, .int bb, .int bc, .int cw, .int cx, .int cf, .ref kp]))] (fun o w => o = .returned none ∧ w = [(ma, .inr (5, [.int fl, .ref tp, .int (nI tn), .ref rp, .int (nI rn), .ref dp, .int dn, .ref wp, .int wn, .int ba, .ref op, .int on, .ref bp, .ref lp, .ref ep, .int bb, .int bc, .int (nI (m + 1)), .int (nI (2 ^ m + 2)), .int (zb true), .ref kp]))]) := by
  refine zx_K.mk (Nat.le_of_ble_eq_true rfl) (fun p e s mm below meth c9 C hr hlk ht hnm => ?_)
  exact sg_MO_begin C hr hlk (nI_1 m) (zp_shl1 m (by omega)) (nI_add _ 2) ⟨rfl, rfl⟩
set_option maxRecDepth 100000 in
set_option maxHeartbeats 4000000 in
theorem sg_MO_em0 {p : Program} {l : Launch} {e : Env} {s : State} {mi : MethodId} {args : Array Value} {below : List Frame} {meth : Method} {co : Code} {D : va_G} {cB cI cL : ClassId} {Q : State → Prop} {A : Nat → Prop} (C : zx_C p s mi args co b_MO_emit 2 R_MO zB D zcl (zt cB cI cL) A) {ma tp rp dp wp op bp lp ep kp tn rn n v wb b x c V P : Nat} {fl dn wn ba : Int32} {fr : Bool} {ou : Nat → Int32} (h : zS ou n v wb V P) (hwb : wb < 8) (hc : c < 2 ^ b) (hk : b ≤ 12) (hP : P + b < 524288) (k9 : ∀ f2 : Nat → Int32, ∀ n2 : Nat, ∀ v2 : Nat, ∀ w2 : Nat, (zS f2 n2 v2 w2 (V + c * 2 ^ P) (P + b) ∧ w2 < 8) → zx_At p l e (zr 3 0 0) s mi args below meth co Q D zcl A 2 [(0, .ref ma), (1, .int (nI c))] [(ma, .inr (5, [.int fl, .ref tp, .int (nI tn), .ref rp, .int (nI rn), .ref dp, .int dn, .ref wp, .int wn, .int ba, .ref op, .int (nI n2), .ref bp, .ref lp, .ref ep, .int (nI v2), .int (nI w2), .int (nI b), .int (nI x), .int (zb fr), .ref kp])), (op, .inl (cB, 65536, .inl f2))] 0 0 9 []) : zx_At p l e (zr 3 0 0) s mi args below meth co Q D zcl A 2 [(0, .ref ma), (1, .int (nI c))] [(ma, .inr (5, [.int fl, .ref tp, .int (nI tn), .ref rp, .int (nI rn), .ref dp, .int dn, .ref wp, .int wn, .int ba, .ref op, .int (nI n), .ref bp, .ref lp, .ref ep, .int (nI v), .int (nI wb), .int (nI b), .int (nI x), .int (zb fr), .ref kp])), (op, .inl (cB, 65536, .inl ou))] 0 0 0 [] := by
  refine zx_aload_n (pc := 0) C d_MO_emit_0 rfl 0 rfl ?_
  refine zx_iload_n (pc := 1) C d_MO_emit_1 rfl 1 rfl ?_
  refine zx_aload_n (pc := 2) C d_MO_emit_2 rfl 0 rfl ?_
  refine zx_get (pc := 3) (ci := 5) (Cn := R_MO) (T := T_MO) (N := 21) (v := .int (nI b)) C zu_MO 0 rfl rfl 17 (by decide) zw_720 rfl rfl d_MO_emit_3 ?_
  refine zx_callV (pc := 6) (ix := 99) (As := [.int (nI c), .int (nI b)]) (b := ma) (q0 := 0) (wr := []) (st := []) C (zx_cw.of (C.w zw_830)) (by decide +kernel) ⟨by decide +kernel, by decide +kernel⟩ zw_829 zs_MO_putBits zw_827 rfl rfl rfl rfl rfl (k_MO_putBits l D cB cI cL ma tp rp dp wp op bp lp ep kp tn rn n v wb c b V P fl dn wn ba (nI b) (nI x) (zb fr) ou h hwb hc hk hP) rfl [0, 1] [] rfl rfl (by decide) (by decide) (by decide) (Nat.le_of_ble_eq_true rfl) (Nat.le_of_ble_eq_true rfl) (Nat.le_of_ble_eq_true rfl) (Nat.le_of_ble_eq_true rfl) d_MO_emit_6 (fun o w1 hp => ?_)
  obtain ⟨f2, n2, v2, w2, hc6, rfl, rfl⟩ := hp
  refine zx_rv (k2 := 0) (n2 := 0) rfl rfl ?_
  refine zx_ws (ws' := [(ma, .inr (5, [.int fl, .ref tp, .int (nI tn), .ref rp, .int (nI rn), .ref dp, .int dn, .ref wp, .int wn, .int ba, .ref op, .int (nI n2), .ref bp, .ref lp, .ref ep, .int (nI v2), .int (nI w2), .int (nI b), .int (nI x), .int (zb fr), .ref kp])), (op, .inl (cB, 65536, .inl f2))]) [0, 1] (by decide) rfl ?_
  exact k9 f2 n2 v2 w2 hc6

set_option maxRecDepth 100000 in
set_option maxHeartbeats 4000000 in
theorem sg_MO_em9 {p : Program} {l : Launch} {e : Env} {R : Room} {s : State} {mi : MethodId} {args : Array Value} {below : List Frame} {meth : Method} {co : Code} {D : va_G} {cB cI cL : ClassId} {Q : State → Prop} {A : Nat → Prop} (C : zx_C p s mi args co b_MO_emit 2 R_MO zB D zcl (zt cB cI cL) A) {ma tp rp dp wp op bp lp ep kp tn rn n v wb b x c : Nat} {fl dn wn ba : Int32} {fr : Bool} {ou : Nat → Int32} (k36 : (¬ (zb fr) = 0) → zx_At p l e R s mi args below meth co Q D zcl A 2 [(0, .ref ma), (1, .int (nI c))] [(ma, .inr (5, [.int fl, .ref tp, .int (nI tn), .ref rp, .int (nI rn), .ref dp, .int dn, .ref wp, .int wn, .int ba, .ref op, .int (nI n), .ref bp, .ref lp, .ref ep, .int (nI v), .int (nI wb), .int (nI b), .int (nI x), .int (zb fr), .ref kp])), (op, .inl (cB, 65536, .inl ou))] 0 0 36 []) (k36_2 : ((zb fr) = 0) → ((4096 : Int32) ≤ (nI x)) → zx_At p l e R s mi args below meth co Q D zcl A 2 [(0, .ref ma), (1, .int (nI c))] [(ma, .inr (5, [.int fl, .ref tp, .int (nI tn), .ref rp, .int (nI rn), .ref dp, .int dn, .ref wp, .int wn, .int ba, .ref op, .int (nI n), .ref bp, .ref lp, .ref ep, .int (nI v), .int (nI wb), .int (nI b), .int (nI x), .int (zb fr), .ref kp])), (op, .inl (cB, 65536, .inl ou))] 0 0 36 []) (e32 : ((zb fr) = 0) → (¬ (4096 : Int32) ≤ (nI x)) → ((nI x) + (1 : Int32)) = (nI (x + 1))) (k36_3 : ((zb fr) = 0) → (¬ (4096 : Int32) ≤ (nI x)) → zx_At p l e R s mi args below meth co Q D zcl A 2 [(0, .ref ma), (1, .int (nI c))] [(ma, .inr (5, [.int fl, .ref tp, .int (nI tn), .ref rp, .int (nI rn), .ref dp, .int dn, .ref wp, .int wn, .int ba, .ref op, .int (nI n), .ref bp, .ref lp, .ref ep, .int (nI v), .int (nI wb), .int (nI b), .int (nI (x + 1)), .int (zb fr), .ref kp])), (op, .inl (cB, 65536, .inl ou))] 0 0 36 []) : zx_At p l e R s mi args below meth co Q D zcl A 2 [(0, .ref ma), (1, .int (nI c))] [(ma, .inr (5, [.int fl, .ref tp, .int (nI tn), .ref rp, .int (nI rn), .ref dp, .int dn, .ref wp, .int wn, .int ba, .ref op, .int (nI n), .ref bp, .ref lp, .ref ep, .int (nI v), .int (nI wb), .int (nI b), .int (nI x), .int (zb fr), .ref kp])), (op, .inl (cB, 65536, .inl ou))] 0 0 9 [] := by
  refine zx_aload_n (pc := 9) C d_MO_emit_9 rfl 0 rfl ?_
  refine zx_get (pc := 10) (ci := 5) (Cn := R_MO) (T := T_MO) (N := 21) (v := .int (zb fr)) C zu_MO 0 rfl rfl 19 (by decide) zw_722 rfl rfl d_MO_emit_10 ?_
  refine zx_if_ne (pc := 13) C 36 d_MO_emit_13 (by decide) (fun c13 => ?_) (fun c13 => ?_)
  · exact k36 c13
  · refine zx_aload_n (pc := 16) C d_MO_emit_16 rfl 0 rfl ?_
    refine zx_get (pc := 17) (ci := 5) (Cn := R_MO) (T := T_MO) (N := 21) (v := .int (nI x)) C zu_MO 0 rfl rfl 18 (by decide) zw_721 rfl rfl d_MO_emit_17 ?_
    refine zx_sipush (pc := 20) C d_MO_emit_20 (v := (4096 : Int32)) (by decide) ?_
    refine zx_icmp_ge (pc := 23) C 36 d_MO_emit_23 (by decide) (fun c23 => ?_) (fun c23 => ?_)
    · exact k36_2 c13 c23
    · refine zx_aload_n (pc := 26) C d_MO_emit_26 rfl 0 rfl ?_
      refine zx_dup (pc := 27) C d_MO_emit_27 rfl ?_
      refine zx_get (pc := 28) (ci := 5) (Cn := R_MO) (T := T_MO) (N := 21) (v := .int (nI x)) C zu_MO 0 rfl rfl 18 (by decide) zw_721 rfl rfl d_MO_emit_28 ?_
      refine zx_iconst (pc := 31) C d_MO_emit_31 (v := (1 : Int32)) (by decide) ?_
      refine zx_iadd (pc := 32) C d_MO_emit_32 ?_
      refine zx_seti (nI (x + 1)) (e32 c13 c23) ?_
      refine zx_put (pc := 33) (ci := 5) (Cn := R_MO) (T := T_MO) (N := 21) (v := .int (nI (x + 1))) (ty := .int) (ws' := [(ma, .inr (5, [.int fl, .ref tp, .int (nI tn), .ref rp, .int (nI rn), .ref dp, .int dn, .ref wp, .int wn, .int ba, .ref op, .int (nI n), .ref bp, .ref lp, .ref ep, .int (nI v), .int (nI wb), .int (nI b), .int (nI (x + 1)), .int (zb fr), .ref kp])), (op, .inl (cB, 65536, .inl ou))]) C zu_MO ty_MO tyk_MO nm_MO 0 rfl rfl 18 (by decide) zw_721 rfl rfl (by decide +kernel) rfl rfl (Nat.le_of_ble_eq_true rfl) rfl d_MO_emit_33 ?_
      exact k36_3 c13 c23

set_option maxRecDepth 100000 in
set_option maxHeartbeats 4000000 in
theorem sg_MO_em36 {p : Program} {l : Launch} {e : Env} {R : Room} {s : State} {mi : MethodId} {args : Array Value} {below : List Frame} {meth : Method} {co : Code} {D : va_G} {cB cI cL : ClassId} {w0 : va_W} {kr nr : Nat} {post : Outcome → va_W → Prop} (C : zx_C p s mi args co b_MO_emit 2 R_MO zB D zcl (zt cB cI cL) (va_A w0 s.heap.size)) {ma tp rp dp wp op bp lp ep kp tn rn n v wb b x c : Nat} {fl dn wn ba : Int32} {ou : Nat → Int32} {f9 : Int32} (hr9 : meth.sig.returnType = none) (hlk9 : meth.locks = false) (e50 : ((1 : Int32) <<< ((nI b) &&& 31)) = (nI (2 ^ b))) (r73 : (¬ (nI x) = (nI (2 ^ b))) → post (.returned none) [(ma, .inr (5, [.int fl, .ref tp, .int (nI tn), .ref rp, .int (nI rn), .ref dp, .int dn, .ref wp, .int wn, .int ba, .ref op, .int (nI n), .ref bp, .ref lp, .ref ep, .int (nI v), .int (nI wb), .int (nI b), .int (nI x), .int (0 : Int32), .ref kp])), (op, .inl (cB, 65536, .inl ou))]) (r73_2 : ((nI x) = (nI (2 ^ b))) → ((12 : Int32) ≤ (nI b)) → post (.returned none) [(ma, .inr (5, [.int fl, .ref tp, .int (nI tn), .ref rp, .int (nI rn), .ref dp, .int dn, .ref wp, .int wn, .int ba, .ref op, .int (nI n), .ref bp, .ref lp, .ref ep, .int (nI v), .int (nI wb), .int (nI b), .int (nI x), .int (0 : Int32), .ref kp])), (op, .inl (cB, 65536, .inl ou))]) (e69 : ((nI x) = (nI (2 ^ b))) → (¬ (12 : Int32) ≤ (nI b)) → ((nI b) + (1 : Int32)) = (nI (b + 1))) (r73_3 : ((nI x) = (nI (2 ^ b))) → (¬ (12 : Int32) ≤ (nI b)) → post (.returned none) [(ma, .inr (5, [.int fl, .ref tp, .int (nI tn), .ref rp, .int (nI rn), .ref dp, .int dn, .ref wp, .int wn, .int ba, .ref op, .int (nI n), .ref bp, .ref lp, .ref ep, .int (nI v), .int (nI wb), .int (nI (b + 1)), .int (nI x), .int (0 : Int32), .ref kp])), (op, .inl (cB, 65536, .inl ou))]) : zx_At p l e R s mi args below meth co (zx_Q below s D zcl w0 kr nr R post) D zcl (va_A w0 s.heap.size) 2 [(0, .ref ma), (1, .int (nI c))] [(ma, .inr (5, [.int fl, .ref tp, .int (nI tn), .ref rp, .int (nI rn), .ref dp, .int dn, .ref wp, .int wn, .int ba, .ref op, .int (nI n), .ref bp, .ref lp, .ref ep, .int (nI v), .int (nI wb), .int (nI b), .int (nI x), .int f9, .ref kp])), (op, .inl (cB, 65536, .inl ou))] 0 0 36 [] := by
  refine zx_aload_n (pc := 36) C d_MO_emit_36 rfl 0 rfl ?_
  refine zx_iconst (pc := 37) C d_MO_emit_37 (v := (0 : Int32)) (by decide) ?_
  refine zx_put (pc := 38) (ci := 5) (Cn := R_MO) (T := T_MO) (N := 21) (v := .int (0 : Int32)) (ty := .boolean) (ws' := [(ma, .inr (5, [.int fl, .ref tp, .int (nI tn), .ref rp, .int (nI rn), .ref dp, .int dn, .ref wp, .int wn, .int ba, .ref op, .int (nI n), .ref bp, .ref lp, .ref ep, .int (nI v), .int (nI wb), .int (nI b), .int (nI x), .int (0 : Int32), .ref kp])), (op, .inl (cB, 65536, .inl ou))]) C zu_MO ty_MO tyk_MO nm_MO 0 rfl rfl 19 (by decide) zw_722 rfl rfl (by decide +kernel) (by decide) (by decide) (Nat.le_of_ble_eq_true rfl) rfl d_MO_emit_38 ?_
  refine zx_aload_n (pc := 41) C d_MO_emit_41 rfl 0 rfl ?_
  refine zx_get (pc := 42) (ci := 5) (Cn := R_MO) (T := T_MO) (N := 21) (v := .int (nI x)) C zu_MO 0 rfl rfl 18 (by decide) zw_721 rfl rfl d_MO_emit_42 ?_
  refine zx_iconst (pc := 45) C d_MO_emit_45 (v := (1 : Int32)) (by decide) ?_
  refine zx_aload_n (pc := 46) C d_MO_emit_46 rfl 0 rfl ?_
  refine zx_get (pc := 47) (ci := 5) (Cn := R_MO) (T := T_MO) (N := 21) (v := .int (nI b)) C zu_MO 0 rfl rfl 17 (by decide) zw_720 rfl rfl d_MO_emit_47 ?_
  refine zx_ishl (pc := 50) C d_MO_emit_50 ?_
  refine zx_seti (nI (2 ^ b)) (e50) ?_
  refine zx_icmp_ne (pc := 51) C 73 d_MO_emit_51 (by decide) (fun c51 => ?_) (fun c51 => ?_)
  · exact zx_vret (pc := 73) C hr9 hlk9 (Nat.zero_le _) (Nat.zero_le _) d_MO_emit_73 (r73 c51)
  · refine zx_aload_n (pc := 54) C d_MO_emit_54 rfl 0 rfl ?_
    refine zx_get (pc := 55) (ci := 5) (Cn := R_MO) (T := T_MO) (N := 21) (v := .int (nI b)) C zu_MO 0 rfl rfl 17 (by decide) zw_720 rfl rfl d_MO_emit_55 ?_
    refine zx_bipush (pc := 58) C d_MO_emit_58 (v := (12 : Int32)) (by decide) ?_
    refine zx_icmp_ge (pc := 60) C 73 d_MO_emit_60 (by decide) (fun c60 => ?_) (fun c60 => ?_)
    · exact zx_vret (pc := 73) C hr9 hlk9 (Nat.zero_le _) (Nat.zero_le _) d_MO_emit_73 (r73_2 c51 c60)
    · refine zx_aload_n (pc := 63) C d_MO_emit_63 rfl 0 rfl ?_
      refine zx_dup (pc := 64) C d_MO_emit_64 rfl ?_
      refine zx_get (pc := 65) (ci := 5) (Cn := R_MO) (T := T_MO) (N := 21) (v := .int (nI b)) C zu_MO 0 rfl rfl 17 (by decide) zw_720 rfl rfl d_MO_emit_65 ?_
      refine zx_iconst (pc := 68) C d_MO_emit_68 (v := (1 : Int32)) (by decide) ?_
      refine zx_iadd (pc := 69) C d_MO_emit_69 ?_
      refine zx_seti (nI (b + 1)) (e69 c51 c60) ?_
      refine zx_put (pc := 70) (ci := 5) (Cn := R_MO) (T := T_MO) (N := 21) (v := .int (nI (b + 1))) (ty := .int) (ws' := [(ma, .inr (5, [.int fl, .ref tp, .int (nI tn), .ref rp, .int (nI rn), .ref dp, .int dn, .ref wp, .int wn, .int ba, .ref op, .int (nI n), .ref bp, .ref lp, .ref ep, .int (nI v), .int (nI wb), .int (nI (b + 1)), .int (nI x), .int (0 : Int32), .ref kp])), (op, .inl (cB, 65536, .inl ou))]) C zu_MO ty_MO tyk_MO nm_MO 0 rfl rfl 17 (by decide) zw_720 rfl rfl (by decide +kernel) rfl rfl (Nat.le_of_ble_eq_true rfl) rfl d_MO_emit_70 ?_
      exact zx_vret (pc := 73) C hr9 hlk9 (Nat.zero_le _) (Nat.zero_le _) d_MO_emit_73 (r73_3 c51 c60)

theorem k_MO_emit (l : Launch) (D : va_G) (cB cI cL : ClassId) (ma tp rp dp wp op bp lp ep kp tn rn n v wb b x c V P m : Nat) (fl dn wn ba : Int32) (fr : Bool) (ou : Nat → Int32) (h : zS ou n v wb V P) (hwb : wb < 8) (hc : c < 2 ^ b) (hP : P + b < 524288) (hm : 2 ≤ m ∧ m ≤ 8) (hi : ze_inv m b x fr) : zx_K l zB D zcl (zt cB cI cL) y_MO_emit b_MO_emit 2 (none) [] 0 0 (zr 3 0 0) [.ref ma, .int (nI c)] [(ma, .inr (5, [.int fl, .ref tp, .int (nI tn), .ref rp, .int (nI rn), .ref dp, .int dn, .ref wp, .int wn, .int ba, .ref op, .int (nI n), .ref bp, .ref lp, .ref ep, .int (nI v), .int (nI wb), .int (nI b), .int (nI x), .int (zb fr), .ref kp])), (op, .inl (cB, 65536, .inl ou))] (fun o w => ∃ (f2 : Nat → Int32) (n2 v2 w2 : Nat), (zS f2 n2 v2 w2 (V + c * 2 ^ P) (P + b) ∧ w2 < 8) ∧ o = .returned none ∧ w = [(ma, .inr (5, [.int fl, .ref tp, .int (nI tn), .ref rp, .int (nI rn), .ref dp, .int dn, .ref wp, .int wn, .int ba, .ref op, .int (nI n2), .ref bp, .ref lp, .ref ep, .int (nI v2), .int (nI w2), .int (nI (zn_b b x fr)), .int (nI (zn_x x fr)), .int (zb false), .ref kp])), (op, .inl (cB, 65536, .inl f2))]) := by
  refine zx_K.mk (Nat.le_of_ble_eq_true rfl) (fun p e s mm below meth c9 C hr hlk ht hnm => ?_)
  obtain ⟨hb, hx, hxb, hfr⟩ := hi
  have hp12 := zp_pow12 hb.2
  refine sg_MO_em0 C h hwb hc hb.2 hP (fun f2 n2 v2 w2 hz => ?_)
  have last : ∀ (x8 : Nat) (f9 : Int32), x8 = zn_x x fr → zx_At p l e (zr 3 0 0) s mm (([.ref ma, .int (nI c)] : List Value)).toArray below meth c9 (zx_Q below s D zcl [(ma, .inr (5, [.int fl, .ref tp, .int (nI tn), .ref rp, .int (nI rn), .ref dp, .int dn, .ref wp, .int wn, .int ba, .ref op, .int (nI n), .ref bp, .ref lp, .ref ep, .int (nI v), .int (nI wb), .int (nI b), .int (nI x), .int (zb fr), .ref kp])), (op, .inl (cB, 65536, .inl ou))] 0 0 (zr 3 0 0) (fun o w => ∃ (f2 : Nat → Int32) (n2 v2 w2 : Nat), (zS f2 n2 v2 w2 (V + c * 2 ^ P) (P + b) ∧ w2 < 8) ∧ o = .returned none ∧ w = [(ma, .inr (5, [.int fl, .ref tp, .int (nI tn), .ref rp, .int (nI rn), .ref dp, .int dn, .ref wp, .int wn, .int ba, .ref op, .int (nI n2), .ref bp, .ref lp, .ref ep, .int (nI v2), .int (nI w2), .int (nI (zn_b b x fr)), .int (nI (zn_x x fr)), .int (zb false), .ref kp])), (op, .inl (cB, 65536, .inl f2))])) D zcl (va_A [(ma, .inr (5, [.int fl, .ref tp, .int (nI tn), .ref rp, .int (nI rn), .ref dp, .int dn, .ref wp, .int wn, .int ba, .ref op, .int (nI n), .ref bp, .ref lp, .ref ep, .int (nI v), .int (nI wb), .int (nI b), .int (nI x), .int (zb fr), .ref kp])), (op, .inl (cB, 65536, .inl ou))] s.heap.size) 2 [(0, .ref ma), (1, .int (nI c))] [(ma, .inr (5, [.int fl, .ref tp, .int (nI tn), .ref rp, .int (nI rn), .ref dp, .int dn, .ref wp, .int wn, .int ba, .ref op, .int (nI n2), .ref bp, .ref lp, .ref ep, .int (nI v2), .int (nI w2), .int (nI b), .int (nI x8), .int f9, .ref kp])), (op, .inl (cB, 65536, .inl f2))] 0 0 36 [] := by
    intro x8 f9 hx8
    have hzx := zn_x_le (x := x) (fr := fr) (by omega)
    have k1 : nI x8 = nI (2 ^ b) ↔ x8 = 2 ^ b := nI_eq (by omega) (by omega)
    have k2 : (12 : Int32) ≤ nI b ↔ 12 ≤ b := zp_ge (k := 12) rfl (by omega) (by decide)
    have hbx : zn_b b x fr = if x8 = 2 ^ b ∧ b < 12 then b + 1 else b := by
      unfold zn_b
      unfold zn_x at hx8
      by_cases q : fr = false ∧ x < 4096
      · rw [if_pos q] at hx8
        by_cases q2 : x8 = 2 ^ b ∧ b < 12
        · rw [if_pos ⟨q.1, q.2, by omega, q2.2⟩, if_pos q2]
        · rw [if_neg (fun z => q2 ⟨by omega, z.2.2.2⟩), if_neg q2]
      · rw [if_neg q] at hx8
        rw [if_neg (fun z => q ⟨z.1, z.2.1⟩), if_neg (fun z => by omega)]
    refine sg_MO_em36 C hr hlk (zp_shl1 b (by omega)) (fun z => ?_) (fun z1 z2 => ?_) (fun _ _ => nI_1 b) (fun z1 z2 => ?_)
    · rw [if_neg (fun q => z (k1.mpr q.1))] at hbx
      exact ⟨f2, n2, v2, w2, hz, rfl, by rw [hbx, ← hx8]; rfl⟩
    · rw [if_neg (fun q => by have := k2.mp z2; omega)] at hbx
      exact ⟨f2, n2, v2, w2, hz, rfl, by rw [hbx, ← hx8]; rfl⟩
    · rw [if_pos ⟨k1.mp z1, by have := mt k2.mpr z2; omega⟩] at hbx
      exact ⟨f2, n2, v2, w2, hz, rfl, by rw [hbx, ← hx8]; rfl⟩
  have hx4 : (4096 : Int32) ≤ nI x ↔ 4096 ≤ x := zp_ge (k := 4096) rfl (by omega) (by decide)
  refine sg_MO_em9 C (fun z => last x _ ?_) (fun z1 z2 => last x _ ?_) (fun _ _ => nI_1 x) (fun z1 z2 => last (x + 1) _ ?_)
  · unfold zn_x; rw [if_neg (fun q => z (by rw [q.1]; rfl))]
  · exact absurd (hx4.mp z2) (by omega)
  · unfold zn_x; rw [if_pos ⟨zb_0.mp z1, by omega⟩]
