/-- the first k are v's -/
def zif (f v : Nat → Int32) (k : Nat) : Nat → Int32 := fun j => if j < k then v j else f j
set_option maxRecDepth 100000 in
set_option maxHeartbeats 4000000 in
theorem sg_MR_0 {p : Program} {l : Launch} {e : Env} {R : Room} {s : State} {mi : MethodId} {args : Array Value} {below : List Frame} {meth : Method} {co : Code} {D : va_G} {cB cI cL : ClassId} {Q : State → Prop} {A : Nat → Prop} (C : zx_C p s mi args co b_MO_unrows 7 R_MO zB D zcl (zt cB cI cL) A) {ma tp rp dp wp op bp lp ep kp tn rn n made m : Nat} {fl ba on bb bc cw cx cf : Int32} {dt rw bf li de : Nat → Int32} (e2 : ((1 : Int32) <<< ((nI m) &&& 31)) = (nI (2 ^ m))) (k6 : zx_At p l e R s mi args below meth co Q D zcl A 7 [(0, .ref ma), (1, .int (nI m)), (2, .int (nI (2 ^ m))), (3, .int (0 : Int32))] [(ma, .inr (5, [.int fl, .ref tp, .int (nI tn), .ref rp, .int (nI rn), .ref dp, .int (nI n), .ref wp, .int (nI made), .int ba, .ref op, .int on, .ref bp, .ref lp, .ref ep, .int bb, .int bc, .int cw, .int cx, .int cf, .ref kp])), (dp, .inl (cB, 16384, .inl dt)), (wp, .inl (cB, 16384, .inl rw)), (bp, .inl (cI, 4096, .inl bf)), (lp, .inl (cI, 4096, .inl li)), (ep, .inl (cI, 4096, .inl de))] 0 0 6 []) : zx_At p l e R s mi args below meth co Q D zcl A 7 [(0, .ref ma), (1, .int (nI m))] [(ma, .inr (5, [.int fl, .ref tp, .int (nI tn), .ref rp, .int (nI rn), .ref dp, .int (nI n), .ref wp, .int (nI made), .int ba, .ref op, .int on, .ref bp, .ref lp, .ref ep, .int bb, .int bc, .int cw, .int cx, .int cf, .ref kp])), (dp, .inl (cB, 16384, .inl dt)), (wp, .inl (cB, 16384, .inl rw)), (bp, .inl (cI, 4096, .inl bf)), (lp, .inl (cI, 4096, .inl li)), (ep, .inl (cI, 4096, .inl de))] 0 0 0 [] := by
  refine zx_iconst (pc := 0) C d_MO_unrows_0 (v := (1 : Int32)) (by decide) ?_
  refine zx_iload_n (pc := 1) C d_MO_unrows_1 rfl 1 rfl ?_
  refine zx_ishl (pc := 2) C d_MO_unrows_2 ?_
  refine zx_seti (nI (2 ^ m)) (e2) ?_
  refine zx_istore_n (pc := 3) C d_MO_unrows_3 rfl (by decide) (lv' := [(2, .int (nI (2 ^ m))), (0, .ref ma), (1, .int (nI m))]) rfl ?_
  refine zx_iconst (pc := 4) C d_MO_unrows_4 (v := (0 : Int32)) (by decide) ?_
  refine zx_istore_n (pc := 5) C d_MO_unrows_5 rfl (by decide) (lv' := [(3, .int (0 : Int32)), (2, .int (nI (2 ^ m))), (0, .ref ma), (1, .int (nI m))]) rfl ?_
  refine zx_lv (lv' := [(0, .ref ma), (1, .int (nI m)), (2, .int (nI (2 ^ m))), (3, .int (0 : Int32))]) [2, 3, 1, 0] rfl ?_
  exact k6

set_option maxRecDepth 100000 in
set_option maxHeartbeats 4000000 in
theorem sg_MR_6 {p : Program} {l : Launch} {e : Env} {R : Room} {s : State} {mi : MethodId} {args : Array Value} {below : List Frame} {meth : Method} {co : Code} {D : va_G} {cB cI cL : ClassId} {Q : State → Prop} {A : Nat → Prop} (C : zx_C p s mi args co b_MO_unrows 7 R_MO zB D zcl (zt cB cI cL) A) {ma tp rp dp wp op bp lp ep kp tn rn n made m k : Nat} {fl ba on bb bc cw cx cf : Int32} {dt rw bf li de : Nat → Int32} (e40 : ((nI (2 ^ m)) ≤ (nI k)) → ((nI (2 ^ m)) + (2 : Int32)) = (nI (2 ^ m + 2))) (e44 : ((nI (2 ^ m)) ≤ (nI k)) → ((nI m) + (1 : Int32)) = (nI (m + 1))) (k55 : ((nI (2 ^ m)) ≤ (nI k)) → zx_At p l e R s mi args below meth co Q D zcl A 7 [(0, .ref ma), (1, .int (nI m)), (2, .int (nI (2 ^ m))), (3, .int (nI (2 ^ m + 2))), (4, .int (nI (m + 1))), (5, .int (-1 : Int32))] [(ma, .inr (5, [.int fl, .ref tp, .int (nI tn), .ref rp, .int (nI rn), .ref dp, .int (nI n), .ref wp, .int (nI made), .int (0 : Int32), .ref op, .int on, .ref bp, .ref lp, .ref ep, .int bb, .int bc, .int cw, .int cx, .int cf, .ref kp])), (dp, .inl (cB, 16384, .inl dt)), (wp, .inl (cB, 16384, .inl rw)), (bp, .inl (cI, 4096, .inl bf)), (lp, .inl (cI, 4096, .inl li)), (ep, .inl (cI, 4096, .inl de))] 0 0 55 []) (b17 : (¬ (nI (2 ^ m)) ≤ (nI k)) → (nI k) = nI k ∧ k < 4096) (b24 : (¬ (nI (2 ^ m)) ≤ (nI k)) → (nI k) = nI k ∧ k < 4096) (b31 : (¬ (nI (2 ^ m)) ≤ (nI k)) → (nI k) = nI k ∧ k < 4096) (e32 : (¬ (nI (2 ^ m)) ≤ (nI k)) → (nI k) + (1 : Int32) = (nI (k + 1))) (k6 : (¬ (nI (2 ^ m)) ≤ (nI k)) → zx_At p l e R s mi args below meth co Q D zcl A 7 [(0, .ref ma), (1, .int (nI m)), (2, .int (nI (2 ^ m))), (3, .int (nI (k + 1)))] [(ma, .inr (5, [.int fl, .ref tp, .int (nI tn), .ref rp, .int (nI rn), .ref dp, .int (nI n), .ref wp, .int (nI made), .int ba, .ref op, .int on, .ref bp, .ref lp, .ref ep, .int bb, .int bc, .int cw, .int cx, .int cf, .ref kp])), (dp, .inl (cB, 16384, .inl dt)), (wp, .inl (cB, 16384, .inl rw)), (bp, .inl (cI, 4096, .inl (upd bf k (-1 : Int32)))), (lp, .inl (cI, 4096, .inl (upd li k (nI k)))), (ep, .inl (cI, 4096, .inl (upd de k (1 : Int32))))] 0 0 6 []) : zx_At p l e R s mi args below meth co Q D zcl A 7 [(0, .ref ma), (1, .int (nI m)), (2, .int (nI (2 ^ m))), (3, .int (nI k))] [(ma, .inr (5, [.int fl, .ref tp, .int (nI tn), .ref rp, .int (nI rn), .ref dp, .int (nI n), .ref wp, .int (nI made), .int ba, .ref op, .int on, .ref bp, .ref lp, .ref ep, .int bb, .int bc, .int cw, .int cx, .int cf, .ref kp])), (dp, .inl (cB, 16384, .inl dt)), (wp, .inl (cB, 16384, .inl rw)), (bp, .inl (cI, 4096, .inl bf)), (lp, .inl (cI, 4096, .inl li)), (ep, .inl (cI, 4096, .inl de))] 0 0 6 [] := by
  refine zx_iload_n (pc := 6) C d_MO_unrows_6 rfl 3 rfl ?_
  refine zx_iload_n (pc := 7) C d_MO_unrows_7 rfl 2 rfl ?_
  refine zx_icmp_ge (pc := 8) C 38 d_MO_unrows_8 (by decide) (fun c8 => ?_) (fun c8 => ?_)
  · refine zx_iload_n (pc := 38) C d_MO_unrows_38 rfl 2 rfl ?_
    refine zx_iconst (pc := 39) C d_MO_unrows_39 (v := (2 : Int32)) (by decide) ?_
    refine zx_iadd (pc := 40) C d_MO_unrows_40 ?_
    refine zx_seti (nI (2 ^ m + 2)) (e40 c8) ?_
    refine zx_istore_n (pc := 41) C d_MO_unrows_41 rfl (by decide) (lv' := [(3, .int (nI (2 ^ m + 2))), (0, .ref ma), (1, .int (nI m)), (2, .int (nI (2 ^ m)))]) rfl ?_
    refine zx_iload_n (pc := 42) C d_MO_unrows_42 rfl 2 rfl ?_
    refine zx_iconst (pc := 43) C d_MO_unrows_43 (v := (1 : Int32)) (by decide) ?_
    refine zx_iadd (pc := 44) C d_MO_unrows_44 ?_
    refine zx_seti (nI (m + 1)) (e44 c8) ?_
    refine zx_istore (pc := 45) C d_MO_unrows_45 (by decide) (lv' := [(4, .int (nI (m + 1))), (3, .int (nI (2 ^ m + 2))), (0, .ref ma), (1, .int (nI m)), (2, .int (nI (2 ^ m)))]) rfl ?_
    refine zx_iconst (pc := 47) C d_MO_unrows_47 (v := (-1 : Int32)) (by decide) ?_
    refine zx_istore (pc := 48) C d_MO_unrows_48 (by decide) (lv' := [(5, .int (-1 : Int32)), (4, .int (nI (m + 1))), (3, .int (nI (2 ^ m + 2))), (0, .ref ma), (1, .int (nI m)), (2, .int (nI (2 ^ m)))]) rfl ?_
    refine zx_aload_n (pc := 50) C d_MO_unrows_50 rfl 3 rfl ?_
    refine zx_iconst (pc := 51) C d_MO_unrows_51 (v := (0 : Int32)) (by decide) ?_
    refine zx_put (pc := 52) (ci := 5) (Cn := R_MO) (T := T_MO) (N := 21) (v := .int (0 : Int32)) (ty := .int) (ws' := [(ma, .inr (5, [.int fl, .ref tp, .int (nI tn), .ref rp, .int (nI rn), .ref dp, .int (nI n), .ref wp, .int (nI made), .int (0 : Int32), .ref op, .int on, .ref bp, .ref lp, .ref ep, .int bb, .int bc, .int cw, .int cx, .int cf, .ref kp])), (dp, .inl (cB, 16384, .inl dt)), (wp, .inl (cB, 16384, .inl rw)), (bp, .inl (cI, 4096, .inl bf)), (lp, .inl (cI, 4096, .inl li)), (ep, .inl (cI, 4096, .inl de))]) C zu_MO ty_MO tyk_MO nm_MO 0 rfl rfl 9 (by decide) zw_712 rfl rfl (by decide +kernel) rfl rfl (Nat.le_of_ble_eq_true rfl) rfl d_MO_unrows_52 ?_
    refine zx_lv (lv' := [(0, .ref ma), (1, .int (nI m)), (2, .int (nI (2 ^ m))), (3, .int (nI (2 ^ m + 2))), (4, .int (nI (m + 1))), (5, .int (-1 : Int32))]) [3, 4, 5, 2, 1, 0] rfl ?_
    exact k55 c8
  · refine zx_aload_n (pc := 11) C d_MO_unrows_11 rfl 0 rfl ?_
    refine zx_get (pc := 12) (ci := 5) (Cn := R_MO) (T := T_MO) (N := 21) (v := .ref bp) C zu_MO 0 rfl rfl 12 (by decide) zw_715 rfl rfl d_MO_unrows_12 ?_
    refine zx_iload_n (pc := 15) C d_MO_unrows_15 rfl 3 rfl ?_
    refine zx_iconst (pc := 16) C d_MO_unrows_16 (v := (-1 : Int32)) (by decide) ?_
    refine zx_iast (pc := 17) (ws' := [(ma, .inr (5, [.int fl, .ref tp, .int (nI tn), .ref rp, .int (nI rn), .ref dp, .int (nI n), .ref wp, .int (nI made), .int ba, .ref op, .int on, .ref bp, .ref lp, .ref ep, .int bb, .int bc, .int cw, .int cx, .int cf, .ref kp])), (dp, .inl (cB, 16384, .inl dt)), (wp, .inl (cB, 16384, .inl rw)), (bp, .inl (cI, 4096, .inl (upd bf k (-1 : Int32)))), (lp, .inl (cI, 4096, .inl li)), (ep, .inl (cI, 4096, .inl de))]) C 3 1 rfl rfl k (b17 c8).1 (b17 c8).2 (by decide) rfl d_MO_unrows_17 ?_
    refine zx_aload_n (pc := 18) C d_MO_unrows_18 rfl 0 rfl ?_
    refine zx_get (pc := 19) (ci := 5) (Cn := R_MO) (T := T_MO) (N := 21) (v := .ref lp) C zu_MO 0 rfl rfl 13 (by decide) zw_716 rfl rfl d_MO_unrows_19 ?_
    refine zx_iload_n (pc := 22) C d_MO_unrows_22 rfl 3 rfl ?_
    refine zx_iload_n (pc := 23) C d_MO_unrows_23 rfl 3 rfl ?_
    refine zx_iast (pc := 24) (ws' := [(ma, .inr (5, [.int fl, .ref tp, .int (nI tn), .ref rp, .int (nI rn), .ref dp, .int (nI n), .ref wp, .int (nI made), .int ba, .ref op, .int on, .ref bp, .ref lp, .ref ep, .int bb, .int bc, .int cw, .int cx, .int cf, .ref kp])), (dp, .inl (cB, 16384, .inl dt)), (wp, .inl (cB, 16384, .inl rw)), (bp, .inl (cI, 4096, .inl (upd bf k (-1 : Int32)))), (lp, .inl (cI, 4096, .inl (upd li k (nI k)))), (ep, .inl (cI, 4096, .inl de))]) C 4 1 rfl rfl k (b24 c8).1 (b24 c8).2 (by decide) rfl d_MO_unrows_24 ?_
    refine zx_aload_n (pc := 25) C d_MO_unrows_25 rfl 0 rfl ?_
    refine zx_get (pc := 26) (ci := 5) (Cn := R_MO) (T := T_MO) (N := 21) (v := .ref ep) C zu_MO 0 rfl rfl 14 (by decide) zw_717 rfl rfl d_MO_unrows_26 ?_
    refine zx_iload_n (pc := 29) C d_MO_unrows_29 rfl 3 rfl ?_
    refine zx_iconst (pc := 30) C d_MO_unrows_30 (v := (1 : Int32)) (by decide) ?_
    refine zx_iast (pc := 31) (ws' := [(ma, .inr (5, [.int fl, .ref tp, .int (nI tn), .ref rp, .int (nI rn), .ref dp, .int (nI n), .ref wp, .int (nI made), .int ba, .ref op, .int on, .ref bp, .ref lp, .ref ep, .int bb, .int bc, .int cw, .int cx, .int cf, .ref kp])), (dp, .inl (cB, 16384, .inl dt)), (wp, .inl (cB, 16384, .inl rw)), (bp, .inl (cI, 4096, .inl (upd bf k (-1 : Int32)))), (lp, .inl (cI, 4096, .inl (upd li k (nI k)))), (ep, .inl (cI, 4096, .inl (upd de k (1 : Int32))))]) C 5 1 rfl rfl k (b31 c8).1 (b31 c8).2 (by decide) rfl d_MO_unrows_31 ?_
    refine zx_iinc (pc := 32) C d_MO_unrows_32 3 rfl (v := (nI (k + 1))) (e32 c8) (by decide) (lv' := [(3, .int (nI (k + 1))), (0, .ref ma), (1, .int (nI m)), (2, .int (nI (2 ^ m)))]) rfl ?_
    refine zx_goto (pc := 35) C 6 d_MO_unrows_35 (by decide) ?_
    refine zx_lv (lv' := [(0, .ref ma), (1, .int (nI m)), (2, .int (nI (2 ^ m))), (3, .int (nI (k + 1)))]) [1, 2, 3, 0] rfl ?_
    exact k6 c8

set_option maxRecDepth 100000 in
set_option maxHeartbeats 4000000 in
theorem sg_MR_55 {p : Program} {l : Launch} {e : Env} {s : State} {mi : MethodId} {args : Array Value} {below : List Frame} {meth : Method} {co : Code} {D : va_G} {cB cI cL : ClassId} {w0 : va_W} {kr nr : Nat} {post : Outcome → va_W → Prop} (C : zx_C p s mi args co b_MO_unrows 7 R_MO zB D zcl (zt cB cI cL) (va_A w0 s.heap.size)) {ma tp rp dp wp op bp lp ep kp tn rn n made pl m x b : Nat} {fl on bb bc cw cx cf : Int32} {dt rw bf li de : Nat → Int32} {l9 : Int32} (hn : n ≤ 16384) (hb : b ≤ 12) (hpl : pl ≤ 8 * n) (hr9 : meth.sig.returnType = none) (hlk9 : meth.locks = false) (hl9 : l.stackTraces = false) (ht9 : co.exceptionTable.toList.map (fun h => (h.startPc, h.endPc, h.handlerPc, h.catchType)) = []) (k61 : (pl + b ≤ 8 * n) → zx_At p l e (zr 10 1 6) s mi args below meth co (zx_Q below s D zcl w0 kr nr (zr 10 1 6) post) D zcl (va_A w0 s.heap.size) 7 [(0, .ref ma), (1, .int (nI m)), (2, .int (nI (2 ^ m))), (3, .int (nI x)), (4, .int (nI b)), (5, .int l9)] [(ma, .inr (5, [.int fl, .ref tp, .int (nI tn), .ref rp, .int (nI rn), .ref dp, .int (nI n), .ref wp, .int (nI made), .int (nI (pl + b)), .ref op, .int on, .ref bp, .ref lp, .ref ep, .int bb, .int bc, .int cw, .int cx, .int cf, .ref kp])), (dp, .inl (cB, 16384, .inl dt)), (wp, .inl (cB, 16384, .inl rw)), (bp, .inl (cI, 4096, .inl bf)), (lp, .inl (cI, 4096, .inl li)), (ep, .inl (cI, 4096, .inl de))] 0 0 61 [.int (nI (zcode dt n pl b))]) (t58 : ∀ b8 : Int32, (8 * n < pl + b) → ∀ x9 : Nat, post (.threw x9) [(ma, .inr (5, [.int fl, .ref tp, .int (nI tn), .ref rp, .int (nI rn), .ref dp, .int (nI n), .ref wp, .int (nI made), .int b8, .ref op, .int on, .ref bp, .ref lp, .ref ep, .int bb, .int bc, .int cw, .int cx, .int cf, .ref kp])), (dp, .inl (cB, 16384, .inl dt)), (wp, .inl (cB, 16384, .inl rw)), (bp, .inl (cI, 4096, .inl bf)), (lp, .inl (cI, 4096, .inl li)), (ep, .inl (cI, 4096, .inl de)), (x9, .inr (7, []))]) : zx_At p l e (zr 10 1 6) s mi args below meth co (zx_Q below s D zcl w0 kr nr (zr 10 1 6) post) D zcl (va_A w0 s.heap.size) 7 [(0, .ref ma), (1, .int (nI m)), (2, .int (nI (2 ^ m))), (3, .int (nI x)), (4, .int (nI b)), (5, .int l9)] [(ma, .inr (5, [.int fl, .ref tp, .int (nI tn), .ref rp, .int (nI rn), .ref dp, .int (nI n), .ref wp, .int (nI made), .int (nI pl), .ref op, .int on, .ref bp, .ref lp, .ref ep, .int bb, .int bc, .int cw, .int cx, .int cf, .ref kp])), (dp, .inl (cB, 16384, .inl dt)), (wp, .inl (cB, 16384, .inl rw)), (bp, .inl (cI, 4096, .inl bf)), (lp, .inl (cI, 4096, .inl li)), (ep, .inl (cI, 4096, .inl de))] 0 0 55 [] := by
  refine zx_aload_n (pc := 55) C d_MO_unrows_55 rfl 0 rfl ?_
  refine zx_iload (pc := 56) C d_MO_unrows_56 4 rfl ?_
  refine zx_callV (pc := 58) (ix := 66) (As := [.int (nI b)]) (b := ma) (q0 := 0) (wr := [(wp, .inl (cB, 16384, .inl rw)), (bp, .inl (cI, 4096, .inl bf)), (lp, .inl (cI, 4096, .inl li)), (ep, .inl (cI, 4096, .inl de))]) (st := []) C (zx_cw.of (C.w zw_788)) (by decide +kernel) ⟨by decide +kernel, by decide +kernel⟩ zw_787 zs_MO_bits zw_785 rfl rfl rfl rfl rfl (k_MO_bits l D cB cI cL hl9 ma tp rp dp wp op bp lp ep kp tn rn n pl b fl (nI made) on bb bc cw cx cf dt hn hb hpl) rfl [0, 1] [2, 3, 4, 5] rfl rfl (by decide) (by decide) (by decide) (Nat.le_of_ble_eq_true rfl) (Nat.le_of_ble_eq_true rfl) (Nat.le_of_ble_eq_true rfl) (Nat.le_of_ble_eq_true rfl) d_MO_unrows_58 (fun o w1 hp => ?_)
  rcases hp with ⟨hc58, rfl, rfl⟩ | ⟨b8, hc58, x9, rfl, rfl⟩
  · refine zx_ri (k2 := 0) (n2 := 0) rfl rfl ?_
    refine zx_ws (ws' := [(ma, .inr (5, [.int fl, .ref tp, .int (nI tn), .ref rp, .int (nI rn), .ref dp, .int (nI n), .ref wp, .int (nI made), .int (nI (pl + b)), .ref op, .int on, .ref bp, .ref lp, .ref ep, .int bb, .int bc, .int cw, .int cx, .int cf, .ref kp])), (dp, .inl (cB, 16384, .inl dt)), (wp, .inl (cB, 16384, .inl rw)), (bp, .inl (cI, 4096, .inl bf)), (lp, .inl (cI, 4096, .inl li)), (ep, .inl (cI, 4096, .inl de))]) [4, 5, 0, 1, 2, 3] (by decide) rfl ?_
    exact k61 hc58
  · exact zx_rt (k2 := 1) (n2 := 6) rfl rfl (zx_wsT (ws' := [(ma, .inr (5, [.int fl, .ref tp, .int (nI tn), .ref rp, .int (nI rn), .ref dp, .int (nI n), .ref wp, .int (nI made), .int b8, .ref op, .int on, .ref bp, .ref lp, .ref ep, .int bb, .int bc, .int cw, .int cx, .int cf, .ref kp])), (dp, .inl (cB, 16384, .inl dt)), (wp, .inl (cB, 16384, .inl rw)), (bp, .inl (cI, 4096, .inl bf)), (lp, .inl (cI, 4096, .inl li)), (ep, .inl (cI, 4096, .inl de)), (x9, .inr (7, []))]) [4, 5, 0, 1, 2, 3, 6] (by decide) rfl (zx_leave hlk9 (zx_noTab ht9 _) (Nat.le_of_ble_eq_true rfl) (Nat.le_of_ble_eq_true rfl) (t58 b8 hc58 x9)))

set_option maxRecDepth 100000 in
set_option maxHeartbeats 4000000 in
theorem sg_MR_61 {p : Program} {l : Launch} {e : Env} {R : Room} {s : State} {mi : MethodId} {args : Array Value} {below : List Frame} {meth : Method} {co : Code} {D : va_G} {cB cI cL : ClassId} {w0 : va_W} {kr nr : Nat} {post : Outcome → va_W → Prop} (C : zx_C p s mi args co b_MO_unrows 7 R_MO zB D zcl (zt cB cI cL) (va_A w0 s.heap.size)) {ma tp rp dp wp op bp lp ep kp tn rn n made pl m x b c : Nat} {fl on bb bc cw cx cf : Int32} {dt rw bf li de : Nat → Int32} {l9 : Int32} (hr9 : meth.sig.returnType = none) (hlk9 : meth.locks = false) (e67 : ((nI (2 ^ m)) + (1 : Int32)) = (nI (2 ^ m + 1))) (k93 : (¬ (nI c) = (nI (2 ^ m + 1))) → (¬ (nI c) = (nI (2 ^ m))) → zx_At p l e R s mi args below meth co (zx_Q below s D zcl w0 kr nr R post) D zcl (va_A w0 s.heap.size) 7 [(0, .ref ma), (1, .int (nI m)), (2, .int (nI (2 ^ m))), (3, .int (nI x)), (4, .int (nI b)), (5, .int l9), (6, .int (nI c))] [(ma, .inr (5, [.int fl, .ref tp, .int (nI tn), .ref rp, .int (nI rn), .ref dp, .int (nI n), .ref wp, .int (nI made), .int (nI pl), .ref op, .int on, .ref bp, .ref lp, .ref ep, .int bb, .int bc, .int cw, .int cx, .int cf, .ref kp])), (dp, .inl (cB, 16384, .inl dt)), (wp, .inl (cB, 16384, .inl rw)), (bp, .inl (cI, 4096, .inl bf)), (lp, .inl (cI, 4096, .inl li)), (ep, .inl (cI, 4096, .inl de))] 0 0 93 []) (e80 : (¬ (nI c) = (nI (2 ^ m + 1))) → ((nI c) = (nI (2 ^ m))) → ((nI (2 ^ m)) + (2 : Int32)) = (nI (2 ^ m + 2))) (e84 : (¬ (nI c) = (nI (2 ^ m + 1))) → ((nI c) = (nI (2 ^ m))) → ((nI m) + (1 : Int32)) = (nI (m + 1))) (k55 : (¬ (nI c) = (nI (2 ^ m + 1))) → ((nI c) = (nI (2 ^ m))) → zx_At p l e R s mi args below meth co (zx_Q below s D zcl w0 kr nr R post) D zcl (va_A w0 s.heap.size) 7 [(0, .ref ma), (1, .int (nI m)), (2, .int (nI (2 ^ m))), (3, .int (nI (2 ^ m + 2))), (4, .int (nI (m + 1))), (5, .int (-1 : Int32))] [(ma, .inr (5, [.int fl, .ref tp, .int (nI tn), .ref rp, .int (nI rn), .ref dp, .int (nI n), .ref wp, .int (nI made), .int (nI pl), .ref op, .int on, .ref bp, .ref lp, .ref ep, .int bb, .int bc, .int cw, .int cx, .int cf, .ref kp])), (dp, .inl (cB, 16384, .inl dt)), (wp, .inl (cB, 16384, .inl rw)), (bp, .inl (cI, 4096, .inl bf)), (lp, .inl (cI, 4096, .inl li)), (ep, .inl (cI, 4096, .inl de))] 0 0 55 []) (r71 : ((nI c) = (nI (2 ^ m + 1))) → post (.returned none) [(ma, .inr (5, [.int fl, .ref tp, .int (nI tn), .ref rp, .int (nI rn), .ref dp, .int (nI n), .ref wp, .int (nI made), .int (nI pl), .ref op, .int on, .ref bp, .ref lp, .ref ep, .int bb, .int bc, .int cw, .int cx, .int cf, .ref kp])), (dp, .inl (cB, 16384, .inl dt)), (wp, .inl (cB, 16384, .inl rw)), (bp, .inl (cI, 4096, .inl bf)), (lp, .inl (cI, 4096, .inl li)), (ep, .inl (cI, 4096, .inl de))]) : zx_At p l e R s mi args below meth co (zx_Q below s D zcl w0 kr nr R post) D zcl (va_A w0 s.heap.size) 7 [(0, .ref ma), (1, .int (nI m)), (2, .int (nI (2 ^ m))), (3, .int (nI x)), (4, .int (nI b)), (5, .int l9)] [(ma, .inr (5, [.int fl, .ref tp, .int (nI tn), .ref rp, .int (nI rn), .ref dp, .int (nI n), .ref wp, .int (nI made), .int (nI pl), .ref op, .int on, .ref bp, .ref lp, .ref ep, .int bb, .int bc, .int cw, .int cx, .int cf, .ref kp])), (dp, .inl (cB, 16384, .inl dt)), (wp, .inl (cB, 16384, .inl rw)), (bp, .inl (cI, 4096, .inl bf)), (lp, .inl (cI, 4096, .inl li)), (ep, .inl (cI, 4096, .inl de))] 0 0 61 [.int (nI c)] := by
  refine zx_istore (pc := 61) C d_MO_unrows_61 (by decide) (lv' := [(6, .int (nI c)), (0, .ref ma), (1, .int (nI m)), (2, .int (nI (2 ^ m))), (3, .int (nI x)), (4, .int (nI b)), (5, .int l9)]) rfl ?_
  refine zx_iload (pc := 63) C d_MO_unrows_63 0 rfl ?_
  refine zx_iload_n (pc := 65) C d_MO_unrows_65 rfl 3 rfl ?_
  refine zx_iconst (pc := 66) C d_MO_unrows_66 (v := (1 : Int32)) (by decide) ?_
  refine zx_iadd (pc := 67) C d_MO_unrows_67 ?_
  refine zx_seti (nI (2 ^ m + 1)) (e67) ?_
  refine zx_icmp_ne (pc := 68) C 72 d_MO_unrows_68 (by decide) (fun c68 => ?_) (fun c68 => ?_)
  · refine zx_iload (pc := 72) C d_MO_unrows_72 0 rfl ?_
    refine zx_iload_n (pc := 74) C d_MO_unrows_74 rfl 3 rfl ?_
    refine zx_icmp_ne (pc := 75) C 93 d_MO_unrows_75 (by decide) (fun c75 => ?_) (fun c75 => ?_)
    · refine zx_lv (lv' := [(0, .ref ma), (1, .int (nI m)), (2, .int (nI (2 ^ m))), (3, .int (nI x)), (4, .int (nI b)), (5, .int l9), (6, .int (nI c))]) [1, 2, 3, 4, 5, 6, 0] rfl ?_
      exact k93 c68 c75
    · refine zx_iload_n (pc := 78) C d_MO_unrows_78 rfl 3 rfl ?_
      refine zx_iconst (pc := 79) C d_MO_unrows_79 (v := (2 : Int32)) (by decide) ?_
      refine zx_iadd (pc := 80) C d_MO_unrows_80 ?_
      refine zx_seti (nI (2 ^ m + 2)) (e80 c68 c75) ?_
      refine zx_istore_n (pc := 81) C d_MO_unrows_81 rfl (by decide) (lv' := [(3, .int (nI (2 ^ m + 2))), (6, .int (nI c)), (0, .ref ma), (1, .int (nI m)), (2, .int (nI (2 ^ m))), (4, .int (nI b)), (5, .int l9)]) rfl ?_
      refine zx_iload_n (pc := 82) C d_MO_unrows_82 rfl 3 rfl ?_
      refine zx_iconst (pc := 83) C d_MO_unrows_83 (v := (1 : Int32)) (by decide) ?_
      refine zx_iadd (pc := 84) C d_MO_unrows_84 ?_
      refine zx_seti (nI (m + 1)) (e84 c68 c75) ?_
      refine zx_istore (pc := 85) C d_MO_unrows_85 (by decide) (lv' := [(4, .int (nI (m + 1))), (3, .int (nI (2 ^ m + 2))), (6, .int (nI c)), (0, .ref ma), (1, .int (nI m)), (2, .int (nI (2 ^ m))), (5, .int l9)]) rfl ?_
      refine zx_iconst (pc := 87) C d_MO_unrows_87 (v := (-1 : Int32)) (by decide) ?_
      refine zx_istore (pc := 88) C d_MO_unrows_88 (by decide) (lv' := [(5, .int (-1 : Int32)), (4, .int (nI (m + 1))), (3, .int (nI (2 ^ m + 2))), (6, .int (nI c)), (0, .ref ma), (1, .int (nI m)), (2, .int (nI (2 ^ m)))]) rfl ?_
      refine zx_goto (pc := 90) C 55 d_MO_unrows_90 (by decide) ?_
      refine zx_lv (lv' := [(0, .ref ma), (1, .int (nI m)), (2, .int (nI (2 ^ m))), (3, .int (nI (2 ^ m + 2))), (4, .int (nI (m + 1))), (5, .int (-1 : Int32))]) [4, 5, 6, 2, 1, 0] rfl ?_
      exact k55 c68 c75
  · exact zx_vret (pc := 71) C hr9 hlk9 (Nat.zero_le _) (Nat.zero_le _) d_MO_unrows_71 (r71 c68)

set_option maxRecDepth 100000 in
set_option maxHeartbeats 4000000 in
theorem sg_MR_93 {p : Program} {l : Launch} {e : Env} {R : Room} {s : State} {mi : MethodId} {args : Array Value} {below : List Frame} {meth : Method} {co : Code} {D : va_G} {cB cI cL : ClassId} {Q : State → Prop} {A : Nat → Prop} (C : zx_C p s mi args co b_MO_unrows 7 R_MO zB D zcl (zt cB cI cL) A) {ma tp rp dp wp op bp lp ep kp tn rn n made pl m x b c : Nat} {fl on bb bc cw cx cf : Int32} {dt rw bf li de : Nat → Int32} {l9 : Int32} (k116 : (0 ≤ l9) → zx_At p l e R s mi args below meth co Q D zcl A 7 [(0, .ref ma), (1, .int (nI m)), (2, .int (nI (2 ^ m))), (3, .int (nI x)), (4, .int (nI b)), (5, .int l9), (6, .int (nI c))] [(ma, .inr (5, [.int fl, .ref tp, .int (nI tn), .ref rp, .int (nI rn), .ref dp, .int (nI n), .ref wp, .int (nI made), .int (nI pl), .ref op, .int on, .ref bp, .ref lp, .ref ep, .int bb, .int bc, .int cw, .int cx, .int cf, .ref kp])), (dp, .inl (cB, 16384, .inl dt)), (wp, .inl (cB, 16384, .inl rw)), (bp, .inl (cI, 4096, .inl bf)), (lp, .inl (cI, 4096, .inl li)), (ep, .inl (cI, 4096, .inl de))] 0 0 116 []) (k110 : (¬ 0 ≤ l9) → ((nI (2 ^ m)) ≤ (nI c)) → zx_At p l e R s mi args below meth co Q D zcl A 7 [(0, .ref ma), (1, .int (nI m)), (2, .int (nI (2 ^ m))), (3, .int (nI x)), (4, .int (nI b)), (5, .int l9), (6, .int (nI c))] [(ma, .inr (5, [.int fl, .ref tp, .int (nI tn), .ref rp, .int (nI rn), .ref dp, .int (nI n), .ref wp, .int (nI made), .int (nI pl), .ref op, .int on, .ref bp, .ref lp, .ref ep, .int bb, .int bc, .int cw, .int cx, .int cf, .ref kp])), (dp, .inl (cB, 16384, .inl dt)), (wp, .inl (cB, 16384, .inl rw)), (bp, .inl (cI, 4096, .inl bf)), (lp, .inl (cI, 4096, .inl li)), (ep, .inl (cI, 4096, .inl de))] 0 0 110 [.int (0 : Int32), .ref ma]) (k110_2 : (¬ 0 ≤ l9) → (¬ (nI (2 ^ m)) ≤ (nI c)) → zx_At p l e R s mi args below meth co Q D zcl A 7 [(0, .ref ma), (1, .int (nI m)), (2, .int (nI (2 ^ m))), (3, .int (nI x)), (4, .int (nI b)), (5, .int l9), (6, .int (nI c))] [(ma, .inr (5, [.int fl, .ref tp, .int (nI tn), .ref rp, .int (nI rn), .ref dp, .int (nI n), .ref wp, .int (nI made), .int (nI pl), .ref op, .int on, .ref bp, .ref lp, .ref ep, .int bb, .int bc, .int cw, .int cx, .int cf, .ref kp])), (dp, .inl (cB, 16384, .inl dt)), (wp, .inl (cB, 16384, .inl rw)), (bp, .inl (cI, 4096, .inl bf)), (lp, .inl (cI, 4096, .inl li)), (ep, .inl (cI, 4096, .inl de))] 0 0 110 [.int (1 : Int32), .ref ma]) : zx_At p l e R s mi args below meth co Q D zcl A 7 [(0, .ref ma), (1, .int (nI m)), (2, .int (nI (2 ^ m))), (3, .int (nI x)), (4, .int (nI b)), (5, .int l9), (6, .int (nI c))] [(ma, .inr (5, [.int fl, .ref tp, .int (nI tn), .ref rp, .int (nI rn), .ref dp, .int (nI n), .ref wp, .int (nI made), .int (nI pl), .ref op, .int on, .ref bp, .ref lp, .ref ep, .int bb, .int bc, .int cw, .int cx, .int cf, .ref kp])), (dp, .inl (cB, 16384, .inl dt)), (wp, .inl (cB, 16384, .inl rw)), (bp, .inl (cI, 4096, .inl bf)), (lp, .inl (cI, 4096, .inl li)), (ep, .inl (cI, 4096, .inl de))] 0 0 93 [] := by
  refine zx_iload (pc := 93) C d_MO_unrows_93 5 rfl ?_
  refine zx_if_ge (pc := 95) C 116 d_MO_unrows_95 (by decide) (fun c95 => ?_) (fun c95 => ?_)
  · exact k116 c95
  · refine zx_aload_n (pc := 98) C d_MO_unrows_98 rfl 0 rfl ?_
    refine zx_iload (pc := 99) C d_MO_unrows_99 6 rfl ?_
    refine zx_iload_n (pc := 101) C d_MO_unrows_101 rfl 2 rfl ?_
    refine zx_icmp_ge (pc := 102) C 109 d_MO_unrows_102 (by decide) (fun c102 => ?_) (fun c102 => ?_)
    · refine zx_iconst (pc := 109) C d_MO_unrows_109 (v := (0 : Int32)) (by decide) ?_
      exact k110 c95 c102
    · refine zx_iconst (pc := 105) C d_MO_unrows_105 (v := (1 : Int32)) (by decide) ?_
      refine zx_goto (pc := 106) C 110 d_MO_unrows_106 (by decide) ?_
      exact k110_2 c95 c102

set_option maxRecDepth 100000 in
set_option maxHeartbeats 4000000 in
theorem sg_MR_110 {p : Program} {l : Launch} {e : Env} {s : State} {mi : MethodId} {args : Array Value} {below : List Frame} {meth : Method} {co : Code} {D : va_G} {cB cI cL : ClassId} {w0 : va_W} {kr nr : Nat} {post : Outcome → va_W → Prop} (C : zx_C p s mi args co b_MO_unrows 7 R_MO zB D zcl (zt cB cI cL) (va_A w0 s.heap.size)) {ma tp rp dp wp op bp lp ep kp tn rn n made pl m x b c : Nat} {fl on bb bc cw cx cf : Int32} {dt rw bf li de : Nat → Int32} {l9 : Int32} {g9 : Int32} (hr9 : meth.sig.returnType = none) (hlk9 : meth.locks = false) (hl9 : l.stackTraces = false) (ht9 : co.exceptionTable.toList.map (fun h => (h.startPc, h.endPc, h.handlerPc, h.catchType)) = []) (t110 : (g9 = 0) → ∀ x9 : Nat, post (.threw x9) [(ma, .inr (5, [.int fl, .ref tp, .int (nI tn), .ref rp, .int (nI rn), .ref dp, .int (nI n), .ref wp, .int (nI made), .int (nI pl), .ref op, .int on, .ref bp, .ref lp, .ref ep, .int bb, .int bc, .int cw, .int cx, .int cf, .ref kp])), (dp, .inl (cB, 16384, .inl dt)), (wp, .inl (cB, 16384, .inl rw)), (bp, .inl (cI, 4096, .inl bf)), (lp, .inl (cI, 4096, .inl li)), (ep, .inl (cI, 4096, .inl de)), (x9, .inr (7, []))]) (k200 : (¬ (g9 = 0)) → zx_At p l e (zr 10 1 6) s mi args below meth co (zx_Q below s D zcl w0 kr nr (zr 10 1 6) post) D zcl (va_A w0 s.heap.size) 7 [(0, .ref ma), (1, .int (nI m)), (2, .int (nI (2 ^ m))), (3, .int (nI x)), (4, .int (nI b)), (5, .int l9), (6, .int (nI c))] [(ma, .inr (5, [.int fl, .ref tp, .int (nI tn), .ref rp, .int (nI rn), .ref dp, .int (nI n), .ref wp, .int (nI made), .int (nI pl), .ref op, .int on, .ref bp, .ref lp, .ref ep, .int bb, .int bc, .int cw, .int cx, .int cf, .ref kp])), (dp, .inl (cB, 16384, .inl dt)), (wp, .inl (cB, 16384, .inl rw)), (bp, .inl (cI, 4096, .inl bf)), (lp, .inl (cI, 4096, .inl li)), (ep, .inl (cI, 4096, .inl de))] 0 0 200 []) : zx_At p l e (zr 10 1 6) s mi args below meth co (zx_Q below s D zcl w0 kr nr (zr 10 1 6) post) D zcl (va_A w0 s.heap.size) 7 [(0, .ref ma), (1, .int (nI m)), (2, .int (nI (2 ^ m))), (3, .int (nI x)), (4, .int (nI b)), (5, .int l9), (6, .int (nI c))] [(ma, .inr (5, [.int fl, .ref tp, .int (nI tn), .ref rp, .int (nI rn), .ref dp, .int (nI n), .ref wp, .int (nI made), .int (nI pl), .ref op, .int on, .ref bp, .ref lp, .ref ep, .int bb, .int bc, .int cw, .int cx, .int cf, .ref kp])), (dp, .inl (cB, 16384, .inl dt)), (wp, .inl (cB, 16384, .inl rw)), (bp, .inl (cI, 4096, .inl bf)), (lp, .inl (cI, 4096, .inl li)), (ep, .inl (cI, 4096, .inl de))] 0 0 110 [.int g9, .ref ma] := by
  refine zx_callV (pc := 110) (ix := 53) (As := [.int g9]) (b := ma) (q0 := 0) (wr := [(ma, .inr (5, [.int fl, .ref tp, .int (nI tn), .ref rp, .int (nI rn), .ref dp, .int (nI n), .ref wp, .int (nI made), .int (nI pl), .ref op, .int on, .ref bp, .ref lp, .ref ep, .int bb, .int bc, .int cw, .int cx, .int cf, .ref kp])), (dp, .inl (cB, 16384, .inl dt)), (wp, .inl (cB, 16384, .inl rw)), (bp, .inl (cI, 4096, .inl bf)), (lp, .inl (cI, 4096, .inl li)), (ep, .inl (cI, 4096, .inl de))]) (st := []) C (zx_cw.of (C.w zw_792)) (by decide +kernel) ⟨by decide +kernel, by decide +kernel⟩ zw_791 zs_MO_can zw_789 rfl rfl rfl rfl rfl (k_MO_can l D cB cI cL hl9 ma g9) rfl [] [0, 1, 2, 3, 4, 5] rfl rfl (by decide) (by decide) (by decide) (Nat.le_of_ble_eq_true rfl) (Nat.le_of_ble_eq_true rfl) (Nat.le_of_ble_eq_true rfl) (Nat.le_of_ble_eq_true rfl) d_MO_unrows_110 (fun o w1 hp => ?_)
  rcases hp with ⟨hc110, x9, rfl, rfl⟩ | ⟨hc110, rfl, rfl⟩
  · exact zx_rt (k2 := 1) (n2 := 6) rfl rfl (zx_leave hlk9 (zx_noTab ht9 _) (Nat.le_of_ble_eq_true rfl) (Nat.le_of_ble_eq_true rfl) (t110 hc110 x9))
  · refine zx_rv (k2 := 0) (n2 := 0) rfl rfl ?_
    refine zx_ws (ws' := [(ma, .inr (5, [.int fl, .ref tp, .int (nI tn), .ref rp, .int (nI rn), .ref dp, .int (nI n), .ref wp, .int (nI made), .int (nI pl), .ref op, .int on, .ref bp, .ref lp, .ref ep, .int bb, .int bc, .int cw, .int cx, .int cf, .ref kp])), (dp, .inl (cB, 16384, .inl dt)), (wp, .inl (cB, 16384, .inl rw)), (bp, .inl (cI, 4096, .inl bf)), (lp, .inl (cI, 4096, .inl li)), (ep, .inl (cI, 4096, .inl de))]) [0, 1, 2, 3, 4, 5] (by decide) rfl ?_
    refine zx_goto (pc := 113) C 200 d_MO_unrows_113 (by decide) ?_
    exact k200 hc110

set_option maxRecDepth 100000 in
set_option maxHeartbeats 4000000 in
theorem sg_MR_116 {p : Program} {l : Launch} {e : Env} {R : Room} {s : State} {mi : MethodId} {args : Array Value} {below : List Frame} {meth : Method} {co : Code} {D : va_G} {cB cI cL : ClassId} {Q : State → Prop} {A : Nat → Prop} (C : zx_C p s mi args co b_MO_unrows 7 R_MO zB D zcl (zt cB cI cL) A) {ma tp rp dp wp op bp lp ep kp tn rn n made pl m x b c : Nat} {fl on bb bc cw cx cf : Int32} {dt rw bf li de : Nat → Int32} {l9 : Int32} (k141 : ((nI c) < (nI x)) → zx_At p l e R s mi args below meth co Q D zcl A 7 [(0, .ref ma), (1, .int (nI m)), (2, .int (nI (2 ^ m))), (3, .int (nI x)), (4, .int (nI b)), (5, .int l9), (6, .int (nI c))] [(ma, .inr (5, [.int fl, .ref tp, .int (nI tn), .ref rp, .int (nI rn), .ref dp, .int (nI n), .ref wp, .int (nI made), .int (nI pl), .ref op, .int on, .ref bp, .ref lp, .ref ep, .int bb, .int bc, .int cw, .int cx, .int cf, .ref kp])), (dp, .inl (cB, 16384, .inl dt)), (wp, .inl (cB, 16384, .inl rw)), (bp, .inl (cI, 4096, .inl bf)), (lp, .inl (cI, 4096, .inl li)), (ep, .inl (cI, 4096, .inl de))] 0 0 141 [.int (1 : Int32), .ref ma]) (k141_2 : (¬ (nI c) < (nI x)) → (¬ (nI c) = (nI x)) → zx_At p l e R s mi args below meth co Q D zcl A 7 [(0, .ref ma), (1, .int (nI m)), (2, .int (nI (2 ^ m))), (3, .int (nI x)), (4, .int (nI b)), (5, .int l9), (6, .int (nI c))] [(ma, .inr (5, [.int fl, .ref tp, .int (nI tn), .ref rp, .int (nI rn), .ref dp, .int (nI n), .ref wp, .int (nI made), .int (nI pl), .ref op, .int on, .ref bp, .ref lp, .ref ep, .int bb, .int bc, .int cw, .int cx, .int cf, .ref kp])), (dp, .inl (cB, 16384, .inl dt)), (wp, .inl (cB, 16384, .inl rw)), (bp, .inl (cI, 4096, .inl bf)), (lp, .inl (cI, 4096, .inl li)), (ep, .inl (cI, 4096, .inl de))] 0 0 141 [.int (0 : Int32), .ref ma]) (k141_3 : (¬ (nI c) < (nI x)) → ((nI c) = (nI x)) → ((4096 : Int32) ≤ (nI x)) → zx_At p l e R s mi args below meth co Q D zcl A 7 [(0, .ref ma), (1, .int (nI m)), (2, .int (nI (2 ^ m))), (3, .int (nI x)), (4, .int (nI b)), (5, .int l9), (6, .int (nI c))] [(ma, .inr (5, [.int fl, .ref tp, .int (nI tn), .ref rp, .int (nI rn), .ref dp, .int (nI n), .ref wp, .int (nI made), .int (nI pl), .ref op, .int on, .ref bp, .ref lp, .ref ep, .int bb, .int bc, .int cw, .int cx, .int cf, .ref kp])), (dp, .inl (cB, 16384, .inl dt)), (wp, .inl (cB, 16384, .inl rw)), (bp, .inl (cI, 4096, .inl bf)), (lp, .inl (cI, 4096, .inl li)), (ep, .inl (cI, 4096, .inl de))] 0 0 141 [.int (0 : Int32), .ref ma]) (k141_4 : (¬ (nI c) < (nI x)) → ((nI c) = (nI x)) → (¬ (4096 : Int32) ≤ (nI x)) → zx_At p l e R s mi args below meth co Q D zcl A 7 [(0, .ref ma), (1, .int (nI m)), (2, .int (nI (2 ^ m))), (3, .int (nI x)), (4, .int (nI b)), (5, .int l9), (6, .int (nI c))] [(ma, .inr (5, [.int fl, .ref tp, .int (nI tn), .ref rp, .int (nI rn), .ref dp, .int (nI n), .ref wp, .int (nI made), .int (nI pl), .ref op, .int on, .ref bp, .ref lp, .ref ep, .int bb, .int bc, .int cw, .int cx, .int cf, .ref kp])), (dp, .inl (cB, 16384, .inl dt)), (wp, .inl (cB, 16384, .inl rw)), (bp, .inl (cI, 4096, .inl bf)), (lp, .inl (cI, 4096, .inl li)), (ep, .inl (cI, 4096, .inl de))] 0 0 141 [.int (1 : Int32), .ref ma]) : zx_At p l e R s mi args below meth co Q D zcl A 7 [(0, .ref ma), (1, .int (nI m)), (2, .int (nI (2 ^ m))), (3, .int (nI x)), (4, .int (nI b)), (5, .int l9), (6, .int (nI c))] [(ma, .inr (5, [.int fl, .ref tp, .int (nI tn), .ref rp, .int (nI rn), .ref dp, .int (nI n), .ref wp, .int (nI made), .int (nI pl), .ref op, .int on, .ref bp, .ref lp, .ref ep, .int bb, .int bc, .int cw, .int cx, .int cf, .ref kp])), (dp, .inl (cB, 16384, .inl dt)), (wp, .inl (cB, 16384, .inl rw)), (bp, .inl (cI, 4096, .inl bf)), (lp, .inl (cI, 4096, .inl li)), (ep, .inl (cI, 4096, .inl de))] 0 0 116 [] := by
  refine zx_aload_n (pc := 116) C d_MO_unrows_116 rfl 0 rfl ?_
  refine zx_iload (pc := 117) C d_MO_unrows_117 6 rfl ?_
  refine zx_iload_n (pc := 119) C d_MO_unrows_119 rfl 3 rfl ?_
  refine zx_icmp_lt (pc := 120) C 136 d_MO_unrows_120 (by decide) (fun c120 => ?_) (fun c120 => ?_)
  · refine zx_iconst (pc := 136) C d_MO_unrows_136 (v := (1 : Int32)) (by decide) ?_
    refine zx_goto (pc := 137) C 141 d_MO_unrows_137 (by decide) ?_
    exact k141 c120
  · refine zx_iload (pc := 123) C d_MO_unrows_123 6 rfl ?_
    refine zx_iload_n (pc := 125) C d_MO_unrows_125 rfl 3 rfl ?_
    refine zx_icmp_ne (pc := 126) C 140 d_MO_unrows_126 (by decide) (fun c126 => ?_) (fun c126 => ?_)
    · refine zx_iconst (pc := 140) C d_MO_unrows_140 (v := (0 : Int32)) (by decide) ?_
      exact k141_2 c120 c126
    · refine zx_iload_n (pc := 129) C d_MO_unrows_129 rfl 3 rfl ?_
      refine zx_sipush (pc := 130) C d_MO_unrows_130 (v := (4096 : Int32)) (by decide) ?_
      refine zx_icmp_ge (pc := 133) C 140 d_MO_unrows_133 (by decide) (fun c133 => ?_) (fun c133 => ?_)
      · refine zx_iconst (pc := 140) C d_MO_unrows_140 (v := (0 : Int32)) (by decide) ?_
        exact k141_3 c120 c126 c133
      · refine zx_iconst (pc := 136) C d_MO_unrows_136 (v := (1 : Int32)) (by decide) ?_
        refine zx_goto (pc := 137) C 141 d_MO_unrows_137 (by decide) ?_
        exact k141_4 c120 c126 c133

set_option maxRecDepth 100000 in
set_option maxHeartbeats 4000000 in
theorem sg_MR_141 {p : Program} {l : Launch} {e : Env} {s : State} {mi : MethodId} {args : Array Value} {below : List Frame} {meth : Method} {co : Code} {D : va_G} {cB cI cL : ClassId} {w0 : va_W} {kr nr : Nat} {post : Outcome → va_W → Prop} (C : zx_C p s mi args co b_MO_unrows 7 R_MO zB D zcl (zt cB cI cL) (va_A w0 s.heap.size)) {ma tp rp dp wp op bp lp ep kp tn rn n made pl m x b c la : Nat} {fl on bb bc cw cx cf : Int32} {dt rw bf li de : Nat → Int32} {g9 : Int32} (hr9 : meth.sig.returnType = none) (hlk9 : meth.locks = false) (hl9 : l.stackTraces = false) (ht9 : co.exceptionTable.toList.map (fun h => (h.startPc, h.endPc, h.handlerPc, h.catchType)) = []) (t141 : (g9 = 0) → ∀ x9 : Nat, post (.threw x9) [(ma, .inr (5, [.int fl, .ref tp, .int (nI tn), .ref rp, .int (nI rn), .ref dp, .int (nI n), .ref wp, .int (nI made), .int (nI pl), .ref op, .int on, .ref bp, .ref lp, .ref ep, .int bb, .int bc, .int cw, .int cx, .int cf, .ref kp])), (dp, .inl (cB, 16384, .inl dt)), (wp, .inl (cB, 16384, .inl rw)), (bp, .inl (cI, 4096, .inl bf)), (lp, .inl (cI, 4096, .inl li)), (ep, .inl (cI, 4096, .inl de)), (x9, .inr (7, []))]) (k200 : (¬ (g9 = 0)) → ((4096 : Int32) ≤ (nI x)) → zx_At p l e (zr 10 1 6) s mi args below meth co (zx_Q below s D zcl w0 kr nr (zr 10 1 6) post) D zcl (va_A w0 s.heap.size) 7 [(0, .ref ma), (1, .int (nI m)), (2, .int (nI (2 ^ m))), (3, .int (nI x)), (4, .int (nI b)), (5, .int (nI la)), (6, .int (nI c))] [(ma, .inr (5, [.int fl, .ref tp, .int (nI tn), .ref rp, .int (nI rn), .ref dp, .int (nI n), .ref wp, .int (nI made), .int (nI pl), .ref op, .int on, .ref bp, .ref lp, .ref ep, .int bb, .int bc, .int cw, .int cx, .int cf, .ref kp])), (dp, .inl (cB, 16384, .inl dt)), (wp, .inl (cB, 16384, .inl rw)), (bp, .inl (cI, 4096, .inl bf)), (lp, .inl (cI, 4096, .inl li)), (ep, .inl (cI, 4096, .inl de))] 0 0 200 []) (b158 : (¬ (g9 = 0)) → (¬ (4096 : Int32) ≤ (nI x)) → (nI x) = nI x ∧ x < 4096) (k178 : (¬ (g9 = 0)) → (¬ (4096 : Int32) ≤ (nI x)) → (¬ (nI c) = (nI x)) → zx_At p l e (zr 10 1 6) s mi args below meth co (zx_Q below s D zcl w0 kr nr (zr 10 1 6) post) D zcl (va_A w0 s.heap.size) 7 [(0, .ref ma), (1, .int (nI m)), (2, .int (nI (2 ^ m))), (3, .int (nI x)), (4, .int (nI b)), (5, .int (nI la)), (6, .int (nI c))] [(ma, .inr (5, [.int fl, .ref tp, .int (nI tn), .ref rp, .int (nI rn), .ref dp, .int (nI n), .ref wp, .int (nI made), .int (nI pl), .ref op, .int on, .ref bp, .ref lp, .ref ep, .int bb, .int bc, .int cw, .int cx, .int cf, .ref kp])), (dp, .inl (cB, 16384, .inl dt)), (wp, .inl (cB, 16384, .inl rw)), (bp, .inl (cI, 4096, .inl (upd bf x (nI la)))), (lp, .inl (cI, 4096, .inl li)), (ep, .inl (cI, 4096, .inl de))] 0 0 178 [.int (nI c), .ref ma, .int (nI x), .ref lp]) (k178_2 : (¬ (g9 = 0)) → (¬ (4096 : Int32) ≤ (nI x)) → ((nI c) = (nI x)) → zx_At p l e (zr 10 1 6) s mi args below meth co (zx_Q below s D zcl w0 kr nr (zr 10 1 6) post) D zcl (va_A w0 s.heap.size) 7 [(0, .ref ma), (1, .int (nI m)), (2, .int (nI (2 ^ m))), (3, .int (nI x)), (4, .int (nI b)), (5, .int (nI la)), (6, .int (nI c))] [(ma, .inr (5, [.int fl, .ref tp, .int (nI tn), .ref rp, .int (nI rn), .ref dp, .int (nI n), .ref wp, .int (nI made), .int (nI pl), .ref op, .int on, .ref bp, .ref lp, .ref ep, .int bb, .int bc, .int cw, .int cx, .int cf, .ref kp])), (dp, .inl (cB, 16384, .inl dt)), (wp, .inl (cB, 16384, .inl rw)), (bp, .inl (cI, 4096, .inl (upd bf x (nI la)))), (lp, .inl (cI, 4096, .inl li)), (ep, .inl (cI, 4096, .inl de))] 0 0 178 [.int (nI la), .ref ma, .int (nI x), .ref lp]) : zx_At p l e (zr 10 1 6) s mi args below meth co (zx_Q below s D zcl w0 kr nr (zr 10 1 6) post) D zcl (va_A w0 s.heap.size) 7 [(0, .ref ma), (1, .int (nI m)), (2, .int (nI (2 ^ m))), (3, .int (nI x)), (4, .int (nI b)), (5, .int (nI la)), (6, .int (nI c))] [(ma, .inr (5, [.int fl, .ref tp, .int (nI tn), .ref rp, .int (nI rn), .ref dp, .int (nI n), .ref wp, .int (nI made), .int (nI pl), .ref op, .int on, .ref bp, .ref lp, .ref ep, .int bb, .int bc, .int cw, .int cx, .int cf, .ref kp])), (dp, .inl (cB, 16384, .inl dt)), (wp, .inl (cB, 16384, .inl rw)), (bp, .inl (cI, 4096, .inl bf)), (lp, .inl (cI, 4096, .inl li)), (ep, .inl (cI, 4096, .inl de))] 0 0 141 [.int g9, .ref ma] := by
  refine zx_callV (pc := 141) (ix := 53) (As := [.int g9]) (b := ma) (q0 := 0) (wr := [(ma, .inr (5, [.int fl, .ref tp, .int (nI tn), .ref rp, .int (nI rn), .ref dp, .int (nI n), .ref wp, .int (nI made), .int (nI pl), .ref op, .int on, .ref bp, .ref lp, .ref ep, .int bb, .int bc, .int cw, .int cx, .int cf, .ref kp])), (dp, .inl (cB, 16384, .inl dt)), (wp, .inl (cB, 16384, .inl rw)), (bp, .inl (cI, 4096, .inl bf)), (lp, .inl (cI, 4096, .inl li)), (ep, .inl (cI, 4096, .inl de))]) (st := []) C (zx_cw.of (C.w zw_792)) (by decide +kernel) ⟨by decide +kernel, by decide +kernel⟩ zw_791 zs_MO_can zw_789 rfl rfl rfl rfl rfl (k_MO_can l D cB cI cL hl9 ma g9) rfl [] [0, 1, 2, 3, 4, 5] rfl rfl (by decide) (by decide) (by decide) (Nat.le_of_ble_eq_true rfl) (Nat.le_of_ble_eq_true rfl) (Nat.le_of_ble_eq_true rfl) (Nat.le_of_ble_eq_true rfl) d_MO_unrows_141 (fun o w1 hp => ?_)
  rcases hp with ⟨hc141, x9, rfl, rfl⟩ | ⟨hc141, rfl, rfl⟩
  · exact zx_rt (k2 := 1) (n2 := 6) rfl rfl (zx_leave hlk9 (zx_noTab ht9 _) (Nat.le_of_ble_eq_true rfl) (Nat.le_of_ble_eq_true rfl) (t141 hc141 x9))
  · refine zx_rv (k2 := 0) (n2 := 0) rfl rfl ?_
    refine zx_ws (ws' := [(ma, .inr (5, [.int fl, .ref tp, .int (nI tn), .ref rp, .int (nI rn), .ref dp, .int (nI n), .ref wp, .int (nI made), .int (nI pl), .ref op, .int on, .ref bp, .ref lp, .ref ep, .int bb, .int bc, .int cw, .int cx, .int cf, .ref kp])), (dp, .inl (cB, 16384, .inl dt)), (wp, .inl (cB, 16384, .inl rw)), (bp, .inl (cI, 4096, .inl bf)), (lp, .inl (cI, 4096, .inl li)), (ep, .inl (cI, 4096, .inl de))]) [0, 1, 2, 3, 4, 5] (by decide) rfl ?_
    refine zx_iload_n (pc := 144) C d_MO_unrows_144 rfl 3 rfl ?_
    refine zx_sipush (pc := 145) C d_MO_unrows_145 (v := (4096 : Int32)) (by decide) ?_
    refine zx_icmp_ge (pc := 148) C 200 d_MO_unrows_148 (by decide) (fun c148 => ?_) (fun c148 => ?_)
    · exact k200 hc141 c148
    · refine zx_aload_n (pc := 151) C d_MO_unrows_151 rfl 0 rfl ?_
      refine zx_get (pc := 152) (ci := 5) (Cn := R_MO) (T := T_MO) (N := 21) (v := .ref bp) C zu_MO 0 rfl rfl 12 (by decide) zw_715 rfl rfl d_MO_unrows_152 ?_
      refine zx_iload_n (pc := 155) C d_MO_unrows_155 rfl 3 rfl ?_
      refine zx_iload (pc := 156) C d_MO_unrows_156 5 rfl ?_
      refine zx_iast (pc := 158) (ws' := [(ma, .inr (5, [.int fl, .ref tp, .int (nI tn), .ref rp, .int (nI rn), .ref dp, .int (nI n), .ref wp, .int (nI made), .int (nI pl), .ref op, .int on, .ref bp, .ref lp, .ref ep, .int bb, .int bc, .int cw, .int cx, .int cf, .ref kp])), (dp, .inl (cB, 16384, .inl dt)), (wp, .inl (cB, 16384, .inl rw)), (bp, .inl (cI, 4096, .inl (upd bf x (nI la)))), (lp, .inl (cI, 4096, .inl li)), (ep, .inl (cI, 4096, .inl de))]) C 3 1 rfl rfl x (b158 hc141 c148).1 (b158 hc141 c148).2 (by decide) rfl d_MO_unrows_158 ?_
      refine zx_aload_n (pc := 159) C d_MO_unrows_159 rfl 0 rfl ?_
      refine zx_get (pc := 160) (ci := 5) (Cn := R_MO) (T := T_MO) (N := 21) (v := .ref lp) C zu_MO 0 rfl rfl 13 (by decide) zw_716 rfl rfl d_MO_unrows_160 ?_
      refine zx_iload_n (pc := 163) C d_MO_unrows_163 rfl 3 rfl ?_
      refine zx_aload_n (pc := 164) C d_MO_unrows_164 rfl 0 rfl ?_
      refine zx_iload (pc := 165) C d_MO_unrows_165 6 rfl ?_
      refine zx_iload_n (pc := 167) C d_MO_unrows_167 rfl 3 rfl ?_
      refine zx_icmp_ne (pc := 168) C 176 d_MO_unrows_168 (by decide) (fun c168 => ?_) (fun c168 => ?_)
      · refine zx_iload (pc := 176) C d_MO_unrows_176 6 rfl ?_
        exact k178 hc141 c148 c168
      · refine zx_iload (pc := 171) C d_MO_unrows_171 5 rfl ?_
        refine zx_goto (pc := 173) C 178 d_MO_unrows_173 (by decide) ?_
        exact k178_2 hc141 c148 c168

set_option maxRecDepth 100000 in
set_option maxHeartbeats 4000000 in
theorem sg_MR_178 {p : Program} {l : Launch} {e : Env} {s : State} {mi : MethodId} {args : Array Value} {below : List Frame} {meth : Method} {co : Code} {D : va_G} {cB cI cL : ClassId} {Q : State → Prop} {A : Nat → Prop} (C : zx_C p s mi args co b_MO_unrows 7 R_MO zB D zcl (zt cB cI cL) A) {ma tp rp dp wp op bp lp ep kp tn rn n made pl m x b c la y ll top len : Nat} {fl on bb bc cw cx cf : Int32} {dt rw bf li de : Nat → Int32} {li0 : Nat → Int32} {σ : Nat → Nat} (hz : zch bf li0 top len y σ) (ht4 : top ≤ 4096) (b181 : (nI x) = nI x ∧ x < 4096) (b193 : (nI la) = nI la ∧ la < 4096) (e193 : (de la) = (nI ll)) (e195 : ((nI ll) + (1 : Int32)) = (nI (ll + 1))) (b196 : (nI x) = nI x ∧ x < 4096) (e197 : (nI x) + (1 : Int32) = (nI (x + 1))) (k200 : zx_At p l e (zr 10 1 6) s mi args below meth co Q D zcl A 7 [(0, .ref ma), (1, .int (nI m)), (2, .int (nI (2 ^ m))), (3, .int (nI (x + 1))), (4, .int (nI b)), (5, .int (nI la)), (6, .int (nI c))] [(ma, .inr (5, [.int fl, .ref tp, .int (nI tn), .ref rp, .int (nI rn), .ref dp, .int (nI n), .ref wp, .int (nI made), .int (nI pl), .ref op, .int on, .ref bp, .ref lp, .ref ep, .int bb, .int bc, .int cw, .int cx, .int cf, .ref kp])), (dp, .inl (cB, 16384, .inl dt)), (wp, .inl (cB, 16384, .inl rw)), (bp, .inl (cI, 4096, .inl bf)), (lp, .inl (cI, 4096, .inl (upd li x (nI (σ 0))))), (ep, .inl (cI, 4096, .inl (upd de x (nI (ll + 1)))))] 0 0 200 []) : zx_At p l e (zr 10 1 6) s mi args below meth co Q D zcl A 7 [(0, .ref ma), (1, .int (nI m)), (2, .int (nI (2 ^ m))), (3, .int (nI x)), (4, .int (nI b)), (5, .int (nI la)), (6, .int (nI c))] [(ma, .inr (5, [.int fl, .ref tp, .int (nI tn), .ref rp, .int (nI rn), .ref dp, .int (nI n), .ref wp, .int (nI made), .int (nI pl), .ref op, .int on, .ref bp, .ref lp, .ref ep, .int bb, .int bc, .int cw, .int cx, .int cf, .ref kp])), (dp, .inl (cB, 16384, .inl dt)), (wp, .inl (cB, 16384, .inl rw)), (bp, .inl (cI, 4096, .inl bf)), (lp, .inl (cI, 4096, .inl li)), (ep, .inl (cI, 4096, .inl de))] 0 0 178 [.int (nI y), .ref ma, .int (nI x), .ref lp] := by
  refine zx_callV (pc := 178) (ix := 70) (As := [.int (nI y)]) (b := ma) (q0 := 0) (wr := [(dp, .inl (cB, 16384, .inl dt)), (wp, .inl (cB, 16384, .inl rw)), (lp, .inl (cI, 4096, .inl li)), (ep, .inl (cI, 4096, .inl de))]) (st := [.int (nI x), .ref lp]) C (zx_cw.of (C.w zw_806)) (by decide +kernel) ⟨by decide +kernel, by decide +kernel⟩ zw_805 zs_MO_firstOf zw_803 rfl rfl rfl rfl rfl (k_MO_firstOf l D cB cI cL (zr 0 0 0) ma tp rp dp wp op bp lp ep kp tn rn y len top fl (nI n) (nI made) (nI pl) on bb bc cw cx cf bf li0 σ hz ht4) rfl [0, 3] [1, 2, 4, 5] rfl rfl (by decide) (by decide) (by decide) (Nat.le_of_ble_eq_true rfl) (Nat.le_of_ble_eq_true rfl) (Nat.le_of_ble_eq_true rfl) (Nat.le_of_ble_eq_true rfl) d_MO_unrows_178 (fun o w1 hp => ?_)
  obtain ⟨rfl, rfl⟩ := hp
  refine zx_ri (k2 := 0) (n2 := 0) rfl rfl ?_
  refine zx_ws (ws' := [(ma, .inr (5, [.int fl, .ref tp, .int (nI tn), .ref rp, .int (nI rn), .ref dp, .int (nI n), .ref wp, .int (nI made), .int (nI pl), .ref op, .int on, .ref bp, .ref lp, .ref ep, .int bb, .int bc, .int cw, .int cx, .int cf, .ref kp])), (dp, .inl (cB, 16384, .inl dt)), (wp, .inl (cB, 16384, .inl rw)), (bp, .inl (cI, 4096, .inl bf)), (lp, .inl (cI, 4096, .inl li)), (ep, .inl (cI, 4096, .inl de))]) [4, 0, 1, 5, 2, 3] (by decide) rfl ?_
  refine zx_iast (pc := 181) (ws' := [(ma, .inr (5, [.int fl, .ref tp, .int (nI tn), .ref rp, .int (nI rn), .ref dp, .int (nI n), .ref wp, .int (nI made), .int (nI pl), .ref op, .int on, .ref bp, .ref lp, .ref ep, .int bb, .int bc, .int cw, .int cx, .int cf, .ref kp])), (dp, .inl (cB, 16384, .inl dt)), (wp, .inl (cB, 16384, .inl rw)), (bp, .inl (cI, 4096, .inl bf)), (lp, .inl (cI, 4096, .inl (upd li x (nI (σ 0))))), (ep, .inl (cI, 4096, .inl de))]) C 4 1 rfl rfl x (b181).1 (b181).2 (by decide) rfl d_MO_unrows_181 ?_
  refine zx_aload_n (pc := 182) C d_MO_unrows_182 rfl 0 rfl ?_
  refine zx_get (pc := 183) (ci := 5) (Cn := R_MO) (T := T_MO) (N := 21) (v := .ref ep) C zu_MO 0 rfl rfl 14 (by decide) zw_717 rfl rfl d_MO_unrows_183 ?_
  refine zx_iload_n (pc := 186) C d_MO_unrows_186 rfl 3 rfl ?_
  refine zx_aload_n (pc := 187) C d_MO_unrows_187 rfl 0 rfl ?_
  refine zx_get (pc := 188) (ci := 5) (Cn := R_MO) (T := T_MO) (N := 21) (v := .ref ep) C zu_MO 0 rfl rfl 14 (by decide) zw_717 rfl rfl d_MO_unrows_188 ?_
  refine zx_iload (pc := 191) C d_MO_unrows_191 5 rfl ?_
  refine zx_iald (pc := 193) C 5 1 rfl rfl la (b193).1 (b193).2 (by decide) d_MO_unrows_193 ?_
  refine zx_seti (nI ll) (e193) ?_
  refine zx_iconst (pc := 194) C d_MO_unrows_194 (v := (1 : Int32)) (by decide) ?_
  refine zx_iadd (pc := 195) C d_MO_unrows_195 ?_
  refine zx_seti (nI (ll + 1)) (e195) ?_
  refine zx_iast (pc := 196) (ws' := [(ma, .inr (5, [.int fl, .ref tp, .int (nI tn), .ref rp, .int (nI rn), .ref dp, .int (nI n), .ref wp, .int (nI made), .int (nI pl), .ref op, .int on, .ref bp, .ref lp, .ref ep, .int bb, .int bc, .int cw, .int cx, .int cf, .ref kp])), (dp, .inl (cB, 16384, .inl dt)), (wp, .inl (cB, 16384, .inl rw)), (bp, .inl (cI, 4096, .inl bf)), (lp, .inl (cI, 4096, .inl (upd li x (nI (σ 0))))), (ep, .inl (cI, 4096, .inl (upd de x (nI (ll + 1)))))]) C 5 1 rfl rfl x (b196).1 (b196).2 (by decide) rfl d_MO_unrows_196 ?_
  refine zx_iinc (pc := 197) C d_MO_unrows_197 3 rfl (v := (nI (x + 1))) (e197) (by decide) (lv' := [(3, .int (nI (x + 1))), (0, .ref ma), (1, .int (nI m)), (2, .int (nI (2 ^ m))), (4, .int (nI b)), (5, .int (nI la)), (6, .int (nI c))]) rfl ?_
  refine zx_lv (lv' := [(0, .ref ma), (1, .int (nI m)), (2, .int (nI (2 ^ m))), (3, .int (nI (x + 1))), (4, .int (nI b)), (5, .int (nI la)), (6, .int (nI c))]) [1, 2, 3, 0, 4, 5, 6] rfl ?_
  exact k200

set_option maxRecDepth 100000 in
set_option maxHeartbeats 4000000 in
theorem sg_MR_200 {p : Program} {l : Launch} {e : Env} {s : State} {mi : MethodId} {args : Array Value} {below : List Frame} {meth : Method} {co : Code} {D : va_G} {cB cI cL : ClassId} {w0 : va_W} {kr nr : Nat} {post : Outcome → va_W → Prop} (C : zx_C p s mi args co b_MO_unrows 7 R_MO zB D zcl (zt cB cI cL) (va_A w0 s.heap.size)) {ma tp rp dp wp op bp lp ep kp tn rn n made pl m x b c len top : Nat} {fl on bb bc cw cx cf : Int32} {dt rw bf li de : Nat → Int32} {l9 : Int32} {σ : Nat → Nat} (hz : zch bf li top len c σ) (ht4 : top ≤ 4096) (hde : de c = nI len) (hlen : len ≤ 16385) (hmade : made ≤ 16384) (hr9 : meth.sig.returnType = none) (hlk9 : meth.locks = false) (hl9 : l.stackTraces = false) (ht9 : co.exceptionTable.toList.map (fun h => (h.startPc, h.endPc, h.handlerPc, h.catchType)) = []) (t203 : (16384 < made + len) → ∀ x9 : Nat, post (.threw x9) [(ma, .inr (5, [.int fl, .ref tp, .int (nI tn), .ref rp, .int (nI rn), .ref dp, .int (nI n), .ref wp, .int (nI made), .int (nI pl), .ref op, .int on, .ref bp, .ref lp, .ref ep, .int bb, .int bc, .int cw, .int cx, .int cf, .ref kp])), (dp, .inl (cB, 16384, .inl dt)), (wp, .inl (cB, 16384, .inl rw)), (bp, .inl (cI, 4096, .inl bf)), (lp, .inl (cI, 4096, .inl li)), (ep, .inl (cI, 4096, .inl de)), (x9, .inr (8, []))]) (e214 : (made + len ≤ 16384) → ((1 : Int32) <<< ((nI b) &&& 31)) = (nI (2 ^ b))) (k55 : (made + len ≤ 16384) → (¬ (nI x) = (nI (2 ^ b))) → zx_At p l e (zr 10 1 6) s mi args below meth co (zx_Q below s D zcl w0 kr nr (zr 10 1 6) post) D zcl (va_A w0 s.heap.size) 7 [(0, .ref ma), (1, .int (nI m)), (2, .int (nI (2 ^ m))), (3, .int (nI x)), (4, .int (nI b)), (5, .int (nI c))] [(ma, .inr (5, [.int fl, .ref tp, .int (nI tn), .ref rp, .int (nI rn), .ref dp, .int (nI n), .ref wp, .int (nI (made + len)), .int (nI pl), .ref op, .int on, .ref bp, .ref lp, .ref ep, .int bb, .int bc, .int cw, .int cx, .int cf, .ref kp])), (dp, .inl (cB, 16384, .inl dt)), (wp, .inl (cB, 16384, .inl (zgv rw made σ 0 len))), (bp, .inl (cI, 4096, .inl bf)), (lp, .inl (cI, 4096, .inl li)), (ep, .inl (cI, 4096, .inl de))] 0 0 55 []) (k55_2 : (made + len ≤ 16384) → ((nI x) = (nI (2 ^ b))) → ((12 : Int32) ≤ (nI b)) → zx_At p l e (zr 10 1 6) s mi args below meth co (zx_Q below s D zcl w0 kr nr (zr 10 1 6) post) D zcl (va_A w0 s.heap.size) 7 [(0, .ref ma), (1, .int (nI m)), (2, .int (nI (2 ^ m))), (3, .int (nI x)), (4, .int (nI b)), (5, .int (nI c))] [(ma, .inr (5, [.int fl, .ref tp, .int (nI tn), .ref rp, .int (nI rn), .ref dp, .int (nI n), .ref wp, .int (nI (made + len)), .int (nI pl), .ref op, .int on, .ref bp, .ref lp, .ref ep, .int bb, .int bc, .int cw, .int cx, .int cf, .ref kp])), (dp, .inl (cB, 16384, .inl dt)), (wp, .inl (cB, 16384, .inl (zgv rw made σ 0 len))), (bp, .inl (cI, 4096, .inl bf)), (lp, .inl (cI, 4096, .inl li)), (ep, .inl (cI, 4096, .inl de))] 0 0 55 []) (e225 : (made + len ≤ 16384) → ((nI x) = (nI (2 ^ b))) → (¬ (12 : Int32) ≤ (nI b)) → (nI b) + (1 : Int32) = (nI (b + 1))) (k55_3 : (made + len ≤ 16384) → ((nI x) = (nI (2 ^ b))) → (¬ (12 : Int32) ≤ (nI b)) → zx_At p l e (zr 10 1 6) s mi args below meth co (zx_Q below s D zcl w0 kr nr (zr 10 1 6) post) D zcl (va_A w0 s.heap.size) 7 [(0, .ref ma), (1, .int (nI m)), (2, .int (nI (2 ^ m))), (3, .int (nI x)), (4, .int (nI (b + 1))), (5, .int (nI c))] [(ma, .inr (5, [.int fl, .ref tp, .int (nI tn), .ref rp, .int (nI rn), .ref dp, .int (nI n), .ref wp, .int (nI (made + len)), .int (nI pl), .ref op, .int on, .ref bp, .ref lp, .ref ep, .int bb, .int bc, .int cw, .int cx, .int cf, .ref kp])), (dp, .inl (cB, 16384, .inl dt)), (wp, .inl (cB, 16384, .inl (zgv rw made σ 0 len))), (bp, .inl (cI, 4096, .inl bf)), (lp, .inl (cI, 4096, .inl li)), (ep, .inl (cI, 4096, .inl de))] 0 0 55 []) : zx_At p l e (zr 10 1 6) s mi args below meth co (zx_Q below s D zcl w0 kr nr (zr 10 1 6) post) D zcl (va_A w0 s.heap.size) 7 [(0, .ref ma), (1, .int (nI m)), (2, .int (nI (2 ^ m))), (3, .int (nI x)), (4, .int (nI b)), (5, .int l9), (6, .int (nI c))] [(ma, .inr (5, [.int fl, .ref tp, .int (nI tn), .ref rp, .int (nI rn), .ref dp, .int (nI n), .ref wp, .int (nI made), .int (nI pl), .ref op, .int on, .ref bp, .ref lp, .ref ep, .int bb, .int bc, .int cw, .int cx, .int cf, .ref kp])), (dp, .inl (cB, 16384, .inl dt)), (wp, .inl (cB, 16384, .inl rw)), (bp, .inl (cI, 4096, .inl bf)), (lp, .inl (cI, 4096, .inl li)), (ep, .inl (cI, 4096, .inl de))] 0 0 200 [] := by
  refine zx_aload_n (pc := 200) C d_MO_unrows_200 rfl 0 rfl ?_
  refine zx_iload (pc := 201) C d_MO_unrows_201 6 rfl ?_
  refine zx_callV (pc := 203) (ix := 73) (As := [.int (nI c)]) (b := ma) (q0 := 0) (wr := [(dp, .inl (cB, 16384, .inl dt))]) (st := []) C (zx_cw.of (C.w zw_810)) (by decide +kernel) ⟨by decide +kernel, by decide +kernel⟩ zw_809 zs_MO_giveRow zw_807 rfl rfl rfl rfl rfl (k_MO_giveRow l D cB cI cL hl9 ma tp rp dp wp op bp lp ep kp tn rn made c len top fl (nI n) (nI pl) on bb bc cw cx cf rw bf li de σ hz ht4 hde hlen hmade) rfl [0, 2, 3, 4, 5] [1] rfl rfl (by decide) (by decide) (by decide) (Nat.le_of_ble_eq_true rfl) (Nat.le_of_ble_eq_true rfl) (Nat.le_of_ble_eq_true rfl) (Nat.le_of_ble_eq_true rfl) d_MO_unrows_203 (fun o w1 hp => ?_)
  rcases hp with ⟨hc203, x9, rfl, rfl⟩ | ⟨hc203, rfl, rfl⟩
  · exact zx_rt (k2 := 1) (n2 := 6) rfl rfl (zx_wsT (ws' := [(ma, .inr (5, [.int fl, .ref tp, .int (nI tn), .ref rp, .int (nI rn), .ref dp, .int (nI n), .ref wp, .int (nI made), .int (nI pl), .ref op, .int on, .ref bp, .ref lp, .ref ep, .int bb, .int bc, .int cw, .int cx, .int cf, .ref kp])), (dp, .inl (cB, 16384, .inl dt)), (wp, .inl (cB, 16384, .inl rw)), (bp, .inl (cI, 4096, .inl bf)), (lp, .inl (cI, 4096, .inl li)), (ep, .inl (cI, 4096, .inl de)), (x9, .inr (8, []))]) [1, 0, 2, 3, 4, 5, 6] (by decide) rfl (zx_leave hlk9 (zx_noTab ht9 _) (Nat.le_of_ble_eq_true rfl) (Nat.le_of_ble_eq_true rfl) (t203 hc203 x9)))
  · refine zx_rv (k2 := 0) (n2 := 0) rfl rfl ?_
    refine zx_ws (ws' := [(ma, .inr (5, [.int fl, .ref tp, .int (nI tn), .ref rp, .int (nI rn), .ref dp, .int (nI n), .ref wp, .int (nI (made + len)), .int (nI pl), .ref op, .int on, .ref bp, .ref lp, .ref ep, .int bb, .int bc, .int cw, .int cx, .int cf, .ref kp])), (dp, .inl (cB, 16384, .inl dt)), (wp, .inl (cB, 16384, .inl (zgv rw made σ 0 len))), (bp, .inl (cI, 4096, .inl bf)), (lp, .inl (cI, 4096, .inl li)), (ep, .inl (cI, 4096, .inl de))]) [1, 0, 2, 3, 4, 5] (by decide) rfl ?_
    refine zx_iload (pc := 206) C d_MO_unrows_206 6 rfl ?_
    refine zx_istore (pc := 208) C d_MO_unrows_208 (by decide) (lv' := [(5, .int (nI c)), (0, .ref ma), (1, .int (nI m)), (2, .int (nI (2 ^ m))), (3, .int (nI x)), (4, .int (nI b)), (6, .int (nI c))]) rfl ?_
    refine zx_iload_n (pc := 210) C d_MO_unrows_210 rfl 4 rfl ?_
    refine zx_iconst (pc := 211) C d_MO_unrows_211 (v := (1 : Int32)) (by decide) ?_
    refine zx_iload (pc := 212) C d_MO_unrows_212 5 rfl ?_
    refine zx_ishl (pc := 214) C d_MO_unrows_214 ?_
    refine zx_seti (nI (2 ^ b)) (e214 hc203) ?_
    refine zx_icmp_ne (pc := 215) C 228 d_MO_unrows_215 (by decide) (fun c215 => ?_) (fun c215 => ?_)
    · refine zx_goto (pc := 228) C 55 d_MO_unrows_228 (by decide) ?_
      refine zx_lv (lv' := [(0, .ref ma), (1, .int (nI m)), (2, .int (nI (2 ^ m))), (3, .int (nI x)), (4, .int (nI b)), (5, .int (nI c))]) [1, 2, 3, 4, 5, 0] rfl ?_
      exact k55 hc203 c215
    · refine zx_iload (pc := 218) C d_MO_unrows_218 5 rfl ?_
      refine zx_bipush (pc := 220) C d_MO_unrows_220 (v := (12 : Int32)) (by decide) ?_
      refine zx_icmp_ge (pc := 222) C 228 d_MO_unrows_222 (by decide) (fun c222 => ?_) (fun c222 => ?_)
      · refine zx_goto (pc := 228) C 55 d_MO_unrows_228 (by decide) ?_
        refine zx_lv (lv' := [(0, .ref ma), (1, .int (nI m)), (2, .int (nI (2 ^ m))), (3, .int (nI x)), (4, .int (nI b)), (5, .int (nI c))]) [1, 2, 3, 4, 5, 0] rfl ?_
        exact k55_2 hc203 c215 c222
      · refine zx_iinc (pc := 225) C d_MO_unrows_225 5 rfl (v := (nI (b + 1))) (e225 hc203 c215 c222) (by decide) (lv' := [(4, .int (nI (b + 1))), (5, .int (nI c)), (0, .ref ma), (1, .int (nI m)), (2, .int (nI (2 ^ m))), (3, .int (nI x)), (6, .int (nI c))]) rfl ?_
        refine zx_goto (pc := 228) C 55 d_MO_unrows_228 (by decide) ?_
        refine zx_lv (lv' := [(0, .ref ma), (1, .int (nI m)), (2, .int (nI (2 ^ m))), (3, .int (nI x)), (4, .int (nI (b + 1))), (5, .int (nI c))]) [2, 3, 4, 5, 0, 1] rfl ?_
        exact k55_3 hc203 c215 c222

theorem zif_0 (f v : Nat → Int32) : zif f v 0 = f := by funext j; simp [zif]
theorem zif_s (f v : Nat → Int32) (k : Nat) : upd (zif f v k) k (v k) = zif f v (k + 1) := by
  funext j
  unfold upd zif
  by_cases q : j = k
  · subst q; rw [if_pos rfl, if_pos (by omega)]
  · rw [if_neg q]
    by_cases q2 : j < k
    · rw [if_pos q2, if_pos (by omega)]
    · rw [if_neg q2, if_neg (by omega)]
def zla (fr : Bool) (la : Nat) : Int32 := if fr = true then -1 else nI la
/-- what the model's reader gives, by the class's reader as a function -/
def zp_unr (ma tp rp dp wp op bp lp ep kp tn rn n m : Nat) (fl on bb bc cw cx cf : Int32) (dt : Nat → Int32) (ls0 ll0 : Nat) (rs0 rl0 : Nat → Nat) (f0 : Nat → Int32) (cB cI : ClassId) : Outcome → va_W → Prop := fun o w =>
  (∃ (q : Nat) (b8 : Int32) (rw1 bf1 li1 de1 : Nat → Int32), ((zd_run m (zcode dt n) (8 * n) (8 * n) 0 (m + 1) (2 ^ m + 2) true ls0 ll0 rs0 rl0 f0 0).1 = 0 ∧ q = (zd_run m (zcode dt n) (8 * n) (8 * n) 0 (m + 1) (2 ^ m + 2) true ls0 ll0 rs0 rl0 f0 0).2.1 ∧ q ≤ 16384 ∧ (∀ j, j < q → rw1 j = (zd_run m (zcode dt n) (8 * n) (8 * n) 0 (m + 1) (2 ^ m + 2) true ls0 ll0 rs0 rl0 f0 0).2.2 j) ∧ (∀ j, vp_nar .byte (rw1 j) = rw1 j)) ∧ o = .returned none ∧ w = [(ma, .inr (5, [.int fl, .ref tp, .int (nI tn), .ref rp, .int (nI rn), .ref dp, .int (nI n), .ref wp, .int (nI q), .int b8, .ref op, .int on, .ref bp, .ref lp, .ref ep, .int bb, .int bc, .int cw, .int cx, .int cf, .ref kp])), (dp, .inl (cB, 16384, .inl dt)), (wp, .inl (cB, 16384, .inl rw1)), (bp, .inl (cI, 4096, .inl bf1)), (lp, .inl (cI, 4096, .inl li1)), (ep, .inl (cI, 4096, .inl de1))]) ∨
  (∃ (w8 : Int32) (b8 : Int32) (rw1 bf1 li1 de1 : Nat → Int32), ((zd_run m (zcode dt n) (8 * n) (8 * n) 0 (m + 1) (2 ^ m + 2) true ls0 ll0 rs0 rl0 f0 0).1 = 2 ∧ (∀ j, vp_nar .byte (rw1 j) = rw1 j)) ∧ ∃ x0 : Nat, o = .threw x0 ∧ w = [(ma, .inr (5, [.int fl, .ref tp, .int (nI tn), .ref rp, .int (nI rn), .ref dp, .int (nI n), .ref wp, .int w8, .int b8, .ref op, .int on, .ref bp, .ref lp, .ref ep, .int bb, .int bc, .int cw, .int cx, .int cf, .ref kp])), (dp, .inl (cB, 16384, .inl dt)), (wp, .inl (cB, 16384, .inl rw1)), (bp, .inl (cI, 4096, .inl bf1)), (lp, .inl (cI, 4096, .inl li1)), (ep, .inl (cI, 4096, .inl de1)), (x0, .inr (7, []))]) ∨
  (∃ (w8 : Int32) (b8 : Int32) (rw1 bf1 li1 de1 : Nat → Int32), ((zd_run m (zcode dt n) (8 * n) (8 * n) 0 (m + 1) (2 ^ m + 2) true ls0 ll0 rs0 rl0 f0 0).1 = 3 ∧ (∀ j, vp_nar .byte (rw1 j) = rw1 j)) ∧ ∃ x0 : Nat, o = .threw x0 ∧ w = [(ma, .inr (5, [.int fl, .ref tp, .int (nI tn), .ref rp, .int (nI rn), .ref dp, .int (nI n), .ref wp, .int w8, .int b8, .ref op, .int on, .ref bp, .ref lp, .ref ep, .int bb, .int bc, .int cw, .int cx, .int cf, .ref kp])), (dp, .inl (cB, 16384, .inl dt)), (wp, .inl (cB, 16384, .inl rw1)), (bp, .inl (cI, 4096, .inl bf1)), (lp, .inl (cI, 4096, .inl li1)), (ep, .inl (cI, 4096, .inl de1)), (x0, .inr (8, []))])
theorem k_MO_unrows (l : Launch) (D : va_G) (cB cI cL : ClassId) (hl : l.stackTraces = false) (ma tp rp dp wp op bp lp ep kp tn rn n m : Nat) (fl on bb bc cw cx cf ba : Int32) (dt rw0 bf0 li0 de0 : Nat → Int32) (ls0 ll0 : Nat) (rs0 rl0 : Nat → Nat) (f0 : Nat → Int32) (hm : 2 ≤ m ∧ m ≤ 8) (hn : n ≤ 16384) (hby : ∀ j, vp_nar .byte (rw0 j) = rw0 j) (hby0 : ∀ j, vp_nar .byte (f0 j) = f0 j) : zx_K l zB D zcl (zt cB cI cL) y_MO_unrows b_MO_unrows 7 (none) [] 0 0 (zr 10 1 6) [.ref ma, .int (nI m)] [(ma, .inr (5, [.int fl, .ref tp, .int (nI tn), .ref rp, .int (nI rn), .ref dp, .int (nI n), .ref wp, .int (nI 0), .int ba, .ref op, .int on, .ref bp, .ref lp, .ref ep, .int bb, .int bc, .int cw, .int cx, .int cf, .ref kp])), (dp, .inl (cB, 16384, .inl dt)), (wp, .inl (cB, 16384, .inl rw0)), (bp, .inl (cI, 4096, .inl bf0)), (lp, .inl (cI, 4096, .inl li0)), (ep, .inl (cI, 4096, .inl de0))] (zp_unr ma tp rp dp wp op bp lp ep kp tn rn n m fl on bb bc cw cx cf dt ls0 ll0 rs0 rl0 f0 cB cI) := by
  refine zx_K.mk (Nat.le_of_ble_eq_true rfl) (fun p e s mm below meth c9 C hr hlk ht hnm => ?_)
  have hp8 := zp_pow8 hm.2
  have hp4 : 4 ≤ 2 ^ m := Nat.pow_le_pow_right (n := 2) (i := 2) (by decide) hm.1
  have hpm : 2 ^ (m + 1) = 2 * 2 ^ m := by rw [Nat.pow_succ]; omega
  have bad : ∀ (x0 : Nat) (w8 b8 : Int32) (rw1 bf1 li1 de1 : Nat → Int32), (zd_run m (zcode dt n) (8 * n) (8 * n) 0 (m + 1) (2 ^ m + 2) true ls0 ll0 rs0 rl0 f0 0).1 = 2 → (∀ j, vp_nar .byte (rw1 j) = rw1 j) → (zp_unr ma tp rp dp wp op bp lp ep kp tn rn n m fl on bb bc cw cx cf dt ls0 ll0 rs0 rl0 f0 cB cI) (.threw x0) ([(ma, .inr (5, [.int fl, .ref tp, .int (nI tn), .ref rp, .int (nI rn), .ref dp, .int (nI n), .ref wp, .int w8, .int b8, .ref op, .int on, .ref bp, .ref lp, .ref ep, .int bb, .int bc, .int cw, .int cx, .int cf, .ref kp])), (dp, .inl (cB, 16384, .inl dt)), (wp, .inl (cB, 16384, .inl rw1)), (bp, .inl (cI, 4096, .inl bf1)), (lp, .inl (cI, 4096, .inl li1)), (ep, .inl (cI, 4096, .inl de1)), (x0, .inr (7, []))] : va_W) := fun x0 w8 b8 rw1 bf1 li1 de1 h1 h2 => Or.inr (Or.inl ⟨w8, b8, rw1, bf1, li1, de1, ⟨h1, h2⟩, x0, rfl, rfl⟩)
  have loop : ∀ (d pl b x : Nat) (fr : Bool) (ls ll : Nat) (rs rl : Nat → Nat) (f g : Nat → Int32) (made : Nat) (bf li de : Nat → Int32) (la : Nat), 8 * n ≤ pl + d → pl ≤ 8 * n → zd_inv m b x fr ls ll rs rl f made → (x ≤ 2 ^ b ∧ (x = 2 ^ b → b = 12)) → (fr = true → x = 2 ^ m + 2) → zrel m x fr ls ll rs rl f g made bf li de la → zd_run m (zcode dt n) (8 * n) d pl b x fr ls ll rs rl f made = (zd_run m (zcode dt n) (8 * n) (8 * n) 0 (m + 1) (2 ^ m + 2) true ls0 ll0 rs0 rl0 f0 0) → zx_At p l e (zr 10 1 6) s mm (([.ref ma, .int (nI m)] : List Value)).toArray below meth c9 (zx_Q below s D zcl [(ma, .inr (5, [.int fl, .ref tp, .int (nI tn), .ref rp, .int (nI rn), .ref dp, .int (nI n), .ref wp, .int (nI 0), .int ba, .ref op, .int on, .ref bp, .ref lp, .ref ep, .int bb, .int bc, .int cw, .int cx, .int cf, .ref kp])), (dp, .inl (cB, 16384, .inl dt)), (wp, .inl (cB, 16384, .inl rw0)), (bp, .inl (cI, 4096, .inl bf0)), (lp, .inl (cI, 4096, .inl li0)), (ep, .inl (cI, 4096, .inl de0))] 0 0 (zr 10 1 6) (zp_unr ma tp rp dp wp op bp lp ep kp tn rn n m fl on bb bc cw cx cf dt ls0 ll0 rs0 rl0 f0 cB cI)) D zcl (va_A [(ma, .inr (5, [.int fl, .ref tp, .int (nI tn), .ref rp, .int (nI rn), .ref dp, .int (nI n), .ref wp, .int (nI 0), .int ba, .ref op, .int on, .ref bp, .ref lp, .ref ep, .int bb, .int bc, .int cw, .int cx, .int cf, .ref kp])), (dp, .inl (cB, 16384, .inl dt)), (wp, .inl (cB, 16384, .inl rw0)), (bp, .inl (cI, 4096, .inl bf0)), (lp, .inl (cI, 4096, .inl li0)), (ep, .inl (cI, 4096, .inl de0))] s.heap.size) 7 [(0, .ref ma), (1, .int (nI m)), (2, .int (nI (2 ^ m))), (3, .int (nI x)), (4, .int (nI b)), (5, .int (zla fr la))] [(ma, .inr (5, [.int fl, .ref tp, .int (nI tn), .ref rp, .int (nI rn), .ref dp, .int (nI n), .ref wp, .int (nI made), .int (nI pl), .ref op, .int on, .ref bp, .ref lp, .ref ep, .int bb, .int bc, .int cw, .int cx, .int cf, .ref kp])), (dp, .inl (cB, 16384, .inl dt)), (wp, .inl (cB, 16384, .inl g)), (bp, .inl (cI, 4096, .inl bf)), (lp, .inl (cI, 4096, .inl li)), (ep, .inl (cI, 4096, .inl de))] 0 0 55 [] := by
    intro d
    induction d with
    | zero =>
      intro pl b x fr ls ll rs rl f g made bf li de la hd hpl hi hxb hfx hrel hrun
      rw [zd_run] at hrun
      have hb := hi.1
      exact sg_MR_55 C hn hb.2 hpl hr hlk hl ht (fun h => absurd h (by omega)) (fun b8 h x0 => bad x0 _ _ _ _ _ _ (by rw [← hrun]) hrel.2.1)
    | succ d ih =>
      intro pl b x fr ls ll rs rl f g made bf li de la hd hpl hi hxb hfx hrel hrun
      have hi2 := hi
      obtain ⟨hb, hx, hma, hbyf, hrw, hlst⟩ := hi2
      have hp12 := zp_pow12 hb.2
      rw [zd_run] at hrun
      refine sg_MR_55 C hn hb.2 hpl hr hlk hl ht (fun hle => ?_) (fun b8 h x0 => bad x0 _ _ _ _ _ _ (by rw [if_neg (by omega)] at hrun; rw [← hrun]) hrel.2.1)
      rw [if_pos hle] at hrun
      have hcb := zcode_lt dt n pl b
      generalize zcode dt n pl b = c at hrun hcb ⊢
      have k1 : nI c = nI (2 ^ m + 1) ↔ c = 2 ^ m + 1 := nI_eq (by omega) (by omega)
      have k2 : nI c = nI (2 ^ m) ↔ c = 2 ^ m := nI_eq (by omega) (by omega)
      refine sg_MR_61 C hr hlk (nI_1 _) (fun z1 z2 => ?_) (fun _ _ => nI_add _ 2) (fun _ _ => nI_1 m) (fun z1 z2 => ?_) (fun z1 => ?_)
      · -- a row's code
        have n1 := mt k1.mpr z1
        have n2 := mt k2.mpr z2
        rw [if_neg n1, if_neg n2] at hrun
        have hzx := zn_x_le (fr := fr) hx.2
        have over : zn_x x fr ≤ c → (zd_run m (zcode dt n) (8 * n) (8 * n) 0 (m + 1) (2 ^ m + 2) true ls0 ll0 rs0 rl0 f0 0).1 = 2 := fun q => by rw [if_pos q] at hrun; rw [← hrun]
        have give : ∀ (l9 : Int32) (bf' li' de' : Nat → Int32), c < zn_x x fr → de' c = nI (zd_len m c (zd_rl rl x ll fr)) → zch bf' li' (zn_x x fr) (zd_len m c (zd_rl rl x ll fr)) c (zsg m x ls ll rs g c) → zrel m (zn_x x fr) false made (zd_len m c (zd_rl rl x ll fr)) (zd_rs rs x ls fr) (zd_rl rl x ll fr) (zd_out m c f made (zd_rs rs x ls fr) (zd_rl rl x ll fr)) (zgv g made (zsg m x ls ll rs g c) 0 (zd_len m c (zd_rl rl x ll fr))) (made + zd_len m c (zd_rl rl x ll fr)) bf' li' de' c → zx_At p l e (zr 10 1 6) s mm (([.ref ma, .int (nI m)] : List Value)).toArray below meth c9 (zx_Q below s D zcl [(ma, .inr (5, [.int fl, .ref tp, .int (nI tn), .ref rp, .int (nI rn), .ref dp, .int (nI n), .ref wp, .int (nI 0), .int ba, .ref op, .int on, .ref bp, .ref lp, .ref ep, .int bb, .int bc, .int cw, .int cx, .int cf, .ref kp])), (dp, .inl (cB, 16384, .inl dt)), (wp, .inl (cB, 16384, .inl rw0)), (bp, .inl (cI, 4096, .inl bf0)), (lp, .inl (cI, 4096, .inl li0)), (ep, .inl (cI, 4096, .inl de0))] 0 0 (zr 10 1 6) (zp_unr ma tp rp dp wp op bp lp ep kp tn rn n m fl on bb bc cw cx cf dt ls0 ll0 rs0 rl0 f0 cB cI)) D zcl (va_A [(ma, .inr (5, [.int fl, .ref tp, .int (nI tn), .ref rp, .int (nI rn), .ref dp, .int (nI n), .ref wp, .int (nI 0), .int ba, .ref op, .int on, .ref bp, .ref lp, .ref ep, .int bb, .int bc, .int cw, .int cx, .int cf, .ref kp])), (dp, .inl (cB, 16384, .inl dt)), (wp, .inl (cB, 16384, .inl rw0)), (bp, .inl (cI, 4096, .inl bf0)), (lp, .inl (cI, 4096, .inl li0)), (ep, .inl (cI, 4096, .inl de0))] s.heap.size) 7 [(0, .ref ma), (1, .int (nI m)), (2, .int (nI (2 ^ m))), (3, .int (nI (zn_x x fr))), (4, .int (nI b)), (5, .int l9), (6, .int (nI c))] [(ma, .inr (5, [.int fl, .ref tp, .int (nI tn), .ref rp, .int (nI rn), .ref dp, .int (nI n), .ref wp, .int (nI made), .int (nI (pl + b)), .ref op, .int on, .ref bp, .ref lp, .ref ep, .int bb, .int bc, .int cw, .int cx, .int cf, .ref kp])), (dp, .inl (cB, 16384, .inl dt)), (wp, .inl (cB, 16384, .inl g)), (bp, .inl (cI, 4096, .inl bf')), (lp, .inl (cI, 4096, .inl li')), (ep, .inl (cI, 4096, .inl de'))] 0 0 200 [] := by
          intro l9 bf' li' de' hc hde hz hrel'
          rw [if_neg (by omega)] at hrun
          have hlen : zd_len m c (zd_rl rl x ll fr) ≤ 16385 := by
            unfold zd_len
            by_cases q : c < 2 ^ m
            · rw [if_pos q]; omega
            · rw [if_neg q]
              exact (zd_row hi hc (by omega)).2
          have k12 : (12 : Int32) ≤ nI b ↔ 12 ≤ b := zp_ge (k := 12) rfl (by omega) (by decide)
          have kx : nI (zn_x x fr) = nI (2 ^ b) ↔ zn_x x fr = 2 ^ b := nI_eq (by omega) (by omega)
          have hb12 : b = 12 → 2 ^ b = 4096 := fun q => by rw [q]
          have h2b : 2 ^ (b + 1) = 2 * 2 ^ b := by rw [Nat.pow_succ]; omega
          have hbx : zn_b b x fr = if zn_x x fr = 2 ^ b ∧ b < 12 then b + 1 else b := by
            unfold zn_b zn_x
            by_cases q : fr = false ∧ x < 4096
            · rw [if_pos q]
              by_cases q2 : x + 1 = 2 ^ b ∧ b < 12
              · rw [if_pos ⟨q.1, q.2, q2⟩, if_pos q2]
              · rw [if_neg (fun z => q2 z.2.2), if_neg q2]
            · rw [if_neg q, if_neg (fun z => q ⟨z.1, z.2.1⟩), if_neg (fun z => by have := hxb.2 z.1; omega)]
          have hxb' : zn_x x fr ≤ 2 ^ (zn_b b x fr) ∧ (zn_x x fr = 2 ^ (zn_b b x fr) → zn_b b x fr = 12) := by
            have h1 : zn_x x fr ≤ 2 ^ b := by
              unfold zn_x
              by_cases q : fr = false ∧ x < 4096
              · rw [if_pos q]
                by_cases q2 : x = 2 ^ b
                · have := hb12 (hxb.2 q2); omega
                · omega
              · rw [if_neg q]; exact hxb.1
            rw [hbx]
            by_cases q : zn_x x fr = 2 ^ b ∧ b < 12
            · rw [if_pos q]; omega
            · rw [if_neg q]
              exact ⟨h1, fun y => by omega⟩
          have next : made + zd_len m c (zd_rl rl x ll fr) ≤ 16384 → zx_At p l e (zr 10 1 6) s mm (([.ref ma, .int (nI m)] : List Value)).toArray below meth c9 (zx_Q below s D zcl [(ma, .inr (5, [.int fl, .ref tp, .int (nI tn), .ref rp, .int (nI rn), .ref dp, .int (nI n), .ref wp, .int (nI 0), .int ba, .ref op, .int on, .ref bp, .ref lp, .ref ep, .int bb, .int bc, .int cw, .int cx, .int cf, .ref kp])), (dp, .inl (cB, 16384, .inl dt)), (wp, .inl (cB, 16384, .inl rw0)), (bp, .inl (cI, 4096, .inl bf0)), (lp, .inl (cI, 4096, .inl li0)), (ep, .inl (cI, 4096, .inl de0))] 0 0 (zr 10 1 6) (zp_unr ma tp rp dp wp op bp lp ep kp tn rn n m fl on bb bc cw cx cf dt ls0 ll0 rs0 rl0 f0 cB cI)) D zcl (va_A [(ma, .inr (5, [.int fl, .ref tp, .int (nI tn), .ref rp, .int (nI rn), .ref dp, .int (nI n), .ref wp, .int (nI 0), .int ba, .ref op, .int on, .ref bp, .ref lp, .ref ep, .int bb, .int bc, .int cw, .int cx, .int cf, .ref kp])), (dp, .inl (cB, 16384, .inl dt)), (wp, .inl (cB, 16384, .inl rw0)), (bp, .inl (cI, 4096, .inl bf0)), (lp, .inl (cI, 4096, .inl li0)), (ep, .inl (cI, 4096, .inl de0))] s.heap.size) 7 [(0, .ref ma), (1, .int (nI m)), (2, .int (nI (2 ^ m))), (3, .int (nI (zn_x x fr))), (4, .int (nI (zn_b b x fr))), (5, .int (nI c))] [(ma, .inr (5, [.int fl, .ref tp, .int (nI tn), .ref rp, .int (nI rn), .ref dp, .int (nI n), .ref wp, .int (nI (made + zd_len m c (zd_rl rl x ll fr))), .int (nI (pl + b)), .ref op, .int on, .ref bp, .ref lp, .ref ep, .int bb, .int bc, .int cw, .int cx, .int cf, .ref kp])), (dp, .inl (cB, 16384, .inl dt)), (wp, .inl (cB, 16384, .inl (zgv g made (zsg m x ls ll rs g c) 0 (zd_len m c (zd_rl rl x ll fr))))), (bp, .inl (cI, 4096, .inl bf')), (lp, .inl (cI, 4096, .inl li')), (ep, .inl (cI, 4096, .inl de'))] 0 0 55 [] := fun hle2 => by
            rw [if_neg (by omega)] at hrun
            exact ih (pl + b) _ _ false _ _ _ _ _ _ _ bf' li' de' c (by omega) hle (zd_inv_next hi (by omega)) hxb' (fun q => by cases q) hrel' hrun
          refine sg_MR_200 C hz hzx.2 hde hlen hma hr hlk hl ht (fun hgt x0 => ?_) (fun _ => zp_shl1 b (by omega)) (fun h1 z => ?_) (fun h1 z y => ?_) (fun _ _ _ => nI_1 b) (fun h1 z y => ?_)
          · rw [if_pos (by omega)] at hrun
            exact Or.inr (Or.inr ⟨_, _, _, _, _, _, ⟨by rw [← hrun], hrel.2.1⟩, x0, rfl, rfl⟩)
          · have := next h1
            rw [hbx, if_neg (fun q => z (kx.mpr q.1))] at this
            exact this
          · have := next h1
            rw [hbx, if_neg (fun q => by have := k12.mp y; omega)] at this
            exact this
          · have := next h1
            rw [hbx, if_pos ⟨kx.mp z, by have := mt k12.mpr y; omega⟩] at this
            exact this
        have km : nI (2 ^ m) ≤ nI c ↔ 2 ^ m ≤ c := nI_leI (by omega) (by omega)
        cases hfr : fr with
        | true =>
          subst hfr
          have hxe := hfx rfl
          have ex : zn_x x true = x := rfl
          have neg : ¬ (0 : Int32) ≤ zla true la := by show ¬ (0 : Int32) ≤ -1; decide
          have nx : ∀ g9 : Int32, (g9 = 0 → zn_x x true ≤ c) → (¬ g9 = 0 → c < 2 ^ m) → zx_At p l e (zr 10 1 6) s mm (([.ref ma, .int (nI m)] : List Value)).toArray below meth c9 (zx_Q below s D zcl [(ma, .inr (5, [.int fl, .ref tp, .int (nI tn), .ref rp, .int (nI rn), .ref dp, .int (nI n), .ref wp, .int (nI 0), .int ba, .ref op, .int on, .ref bp, .ref lp, .ref ep, .int bb, .int bc, .int cw, .int cx, .int cf, .ref kp])), (dp, .inl (cB, 16384, .inl dt)), (wp, .inl (cB, 16384, .inl rw0)), (bp, .inl (cI, 4096, .inl bf0)), (lp, .inl (cI, 4096, .inl li0)), (ep, .inl (cI, 4096, .inl de0))] 0 0 (zr 10 1 6) (zp_unr ma tp rp dp wp op bp lp ep kp tn rn n m fl on bb bc cw cx cf dt ls0 ll0 rs0 rl0 f0 cB cI)) D zcl (va_A [(ma, .inr (5, [.int fl, .ref tp, .int (nI tn), .ref rp, .int (nI rn), .ref dp, .int (nI n), .ref wp, .int (nI 0), .int ba, .ref op, .int on, .ref bp, .ref lp, .ref ep, .int bb, .int bc, .int cw, .int cx, .int cf, .ref kp])), (dp, .inl (cB, 16384, .inl dt)), (wp, .inl (cB, 16384, .inl rw0)), (bp, .inl (cI, 4096, .inl bf0)), (lp, .inl (cI, 4096, .inl li0)), (ep, .inl (cI, 4096, .inl de0))] s.heap.size) 7 [(0, .ref ma), (1, .int (nI m)), (2, .int (nI (2 ^ m))), (3, .int (nI x)), (4, .int (nI b)), (5, .int (zla true la)), (6, .int (nI c))] [(ma, .inr (5, [.int fl, .ref tp, .int (nI tn), .ref rp, .int (nI rn), .ref dp, .int (nI n), .ref wp, .int (nI made), .int (nI (pl + b)), .ref op, .int on, .ref bp, .ref lp, .ref ep, .int bb, .int bc, .int cw, .int cx, .int cf, .ref kp])), (dp, .inl (cB, 16384, .inl dt)), (wp, .inl (cB, 16384, .inl g)), (bp, .inl (cI, 4096, .inl bf)), (lp, .inl (cI, 4096, .inl li)), (ep, .inl (cI, 4096, .inl de))] 0 0 110 [.int g9, .ref ma] := fun g9 a1 a2 => by
            refine sg_MR_110 C hr hlk hl ht (fun z x0 => bad x0 _ _ _ _ _ _ (over (a1 z)) hrel.2.1) (fun z => ?_)
            have hc := a2 z
            have hv : zval m x c := Or.inl hc
            obtain ⟨hd1, hz1⟩ := zrel_old hrel hx.1 hv
            exact give _ bf li de (by rw [ex]; omega) hd1 hz1 (zrel_same hm hrel hx.1 hv)
          exact sg_MR_93 C (fun z => absurd z neg) (fun _ z => nx 0 (fun _ => by rw [ex]; have := km.mp z; omega) (fun z => absurd rfl z)) (fun _ z => nx 1 (fun z => absurd z (by decide)) (fun _ => by have := mt km.mpr z; omega))
        | false =>
          subst hfr
          obtain ⟨e1, e2, e3, e4, e5⟩ := hrel.2.2.2.2 rfl
          have hla := zch_lt e5
          have pos : (0 : Int32) ≤ zla false la := nI_pos' (by omega)
          have k4 : (4096 : Int32) ≤ nI x ↔ 4096 ≤ x := zp_ge (k := 4096) rfl (by omega) (by decide)
          have kl : nI c < nI x ↔ c < x := nI_ltI (by omega) (by omega)
          have ke : nI c = nI x ↔ c = x := nI_eq (by omega) (by omega)
          have nx : ∀ g9 : Int32, (g9 = 0 → zn_x x false ≤ c) → (¬ g9 = 0 → c < zn_x x false) → zx_At p l e (zr 10 1 6) s mm (([.ref ma, .int (nI m)] : List Value)).toArray below meth c9 (zx_Q below s D zcl [(ma, .inr (5, [.int fl, .ref tp, .int (nI tn), .ref rp, .int (nI rn), .ref dp, .int (nI n), .ref wp, .int (nI 0), .int ba, .ref op, .int on, .ref bp, .ref lp, .ref ep, .int bb, .int bc, .int cw, .int cx, .int cf, .ref kp])), (dp, .inl (cB, 16384, .inl dt)), (wp, .inl (cB, 16384, .inl rw0)), (bp, .inl (cI, 4096, .inl bf0)), (lp, .inl (cI, 4096, .inl li0)), (ep, .inl (cI, 4096, .inl de0))] 0 0 (zr 10 1 6) (zp_unr ma tp rp dp wp op bp lp ep kp tn rn n m fl on bb bc cw cx cf dt ls0 ll0 rs0 rl0 f0 cB cI)) D zcl (va_A [(ma, .inr (5, [.int fl, .ref tp, .int (nI tn), .ref rp, .int (nI rn), .ref dp, .int (nI n), .ref wp, .int (nI 0), .int ba, .ref op, .int on, .ref bp, .ref lp, .ref ep, .int bb, .int bc, .int cw, .int cx, .int cf, .ref kp])), (dp, .inl (cB, 16384, .inl dt)), (wp, .inl (cB, 16384, .inl rw0)), (bp, .inl (cI, 4096, .inl bf0)), (lp, .inl (cI, 4096, .inl li0)), (ep, .inl (cI, 4096, .inl de0))] s.heap.size) 7 [(0, .ref ma), (1, .int (nI m)), (2, .int (nI (2 ^ m))), (3, .int (nI x)), (4, .int (nI b)), (5, .int (nI la)), (6, .int (nI c))] [(ma, .inr (5, [.int fl, .ref tp, .int (nI tn), .ref rp, .int (nI rn), .ref dp, .int (nI n), .ref wp, .int (nI made), .int (nI (pl + b)), .ref op, .int on, .ref bp, .ref lp, .ref ep, .int bb, .int bc, .int cw, .int cx, .int cf, .ref kp])), (dp, .inl (cB, 16384, .inl dt)), (wp, .inl (cB, 16384, .inl g)), (bp, .inl (cI, 4096, .inl bf)), (lp, .inl (cI, 4096, .inl li)), (ep, .inl (cI, 4096, .inl de))] 0 0 141 [.int g9, .ref ma] := fun g9 a1 a2 => by
            refine sg_MR_141 C hr hlk hl ht (fun z x0 => bad x0 _ _ _ _ _ _ (over (a1 z)) hrel.2.1) (fun z y => ?_) (fun z y => ⟨rfl, by have := mt k4.mpr y; omega⟩) (fun z y u => ?_) (fun z y u => ?_)
            · have hx4 := k4.mp y
              have ex : zn_x x false = x := if_neg (by omega)
              have es : zd_rs rs x ls false = rs := if_neg (by omega)
              have el : zd_rl rl x ll false = rl := if_neg (by omega)
              have hc := a2 z
              rw [ex] at hc
              have hv : zval m x c := by
                by_cases q : c < 2 ^ m
                · exact Or.inl q
                · exact Or.inr ⟨by omega, hc⟩
              obtain ⟨hd1, hz1⟩ := zrel_old hrel hx.1 hv
              have gv := give (nI la) bf li de (by rw [ex]; exact hc) (by rw [el]; exact hd1) (by rw [el, ex]; exact hz1) (by rw [el, ex, es]; exact zrel_same hm hrel hx.1 hv)
              rw [ex] at gv
              exact gv
            · have hx4 := mt k4.mpr y
              have hce := mt ke.mpr u
              have ex : zn_x x false = x + 1 := if_pos ⟨rfl, by omega⟩
              have es : zd_rs rs x ls false = updN rs x ls := if_pos ⟨rfl, by omega⟩
              have el : zd_rl rl x ll false = updN rl x (ll + 1) := if_pos ⟨rfl, by omega⟩
              have hc := a2 z
              rw [ex] at hc
              have hv : zval m x c := by
                by_cases q : c < 2 ^ m
                · exact Or.inl q
                · exact Or.inr ⟨by omega, by omega⟩
              obtain ⟨r1, r2, r3⟩ := zrel_new hm hrel hx.1 (Or.inr hv)
              obtain ⟨hd1, hz1⟩ := zrel_old hrel hx.1 hv
              refine sg_MR_178 (σ := zsg m x ls ll rs g c) C (zch_upd (w := 0) hz1) (by omega) ⟨rfl, by omega⟩ ⟨rfl, by omega⟩ e3 (nI_1 _) ⟨rfl, by omega⟩ (nI_1 _) ?_
              have gv := give (nI la) (upd bf x (nI la)) (upd li x (nI (zsg m x ls ll rs g c 0))) (upd de x (nI (ll + 1))) (by rw [ex]; exact hc) (by rw [el]; exact r1) (by rw [el, ex]; exact r2) (by rw [el, ex, es]; exact r3)
              rw [ex] at gv
              exact gv
            · have hx4 := mt k4.mpr y
              have hce := ke.mp u
              have ex : zn_x x false = x + 1 := if_pos ⟨rfl, by omega⟩
              have es : zd_rs rs x ls false = updN rs x ls := if_pos ⟨rfl, by omega⟩
              have el : zd_rl rl x ll false = updN rl x (ll + 1) := if_pos ⟨rfl, by omega⟩
              obtain ⟨r1, r2, r3⟩ := zrel_new hm hrel hx.1 (Or.inl hce)
              have e0 : zsg m x ls ll rs g c 0 = zu (g (ls + 0)) := by
                unfold zsg
                rw [if_neg (by omega), if_pos hce, if_pos (by omega)]
              refine sg_MR_178 (σ := fun k => zu (g (ls + k))) C (zch_upd (w := 0) e5) (by omega) ⟨rfl, by omega⟩ ⟨rfl, by omega⟩ e3 (nI_1 _) ⟨rfl, by omega⟩ (nI_1 _) ?_
              have gv := give (nI la) (upd bf x (nI la)) (upd li x (nI (zsg m x ls ll rs g c 0))) (upd de x (nI (ll + 1))) (by rw [ex]; omega) (by rw [el]; exact r1) (by rw [el, ex]; exact r2) (by rw [el, ex, es]; exact r3)
              rw [ex, e0] at gv
              exact gv
          refine sg_MR_93 C (fun _ => ?_) (fun z => absurd pos z) (fun z => absurd pos z)
          refine sg_MR_116 C (fun z => nx 1 (fun q => absurd q (by decide)) (fun _ => by have := kl.mp z; omega)) (fun z y => nx 0 (fun _ => ?_) (fun q => absurd rfl q)) (fun z y u => nx 0 (fun _ => ?_) (fun q => absurd rfl q)) (fun z y u => nx 1 (fun q => absurd q (by decide)) (fun _ => ?_))
          · have a1 := mt kl.mpr z
            have a2 := mt ke.mpr y
            unfold zn_x
            by_cases q : false = false ∧ x < 4096
            · rw [if_pos q]; omega
            · rw [if_neg q]; omega
          · have a1 := k4.mp u
            have a2 := ke.mp y
            rw [show zn_x x false = x from if_neg (by omega)]; omega
          · have a1 := mt k4.mpr u
            have a2 := ke.mp y
            rw [show zn_x x false = x + 1 from if_pos ⟨rfl, by omega⟩]; omega
      · -- a beginning
        have n1 := mt k1.mpr z1
        have n2 := k2.mp z2
        rw [if_neg n1, if_pos n2] at hrun
        exact ih (pl + b) (m + 1) (2 ^ m + 2) true ls ll rs rl f g made bf li de la (by omega) hle (zd_inv_new hm hma hbyf) ⟨by omega, fun q => by omega⟩ (fun _ => rfl) ⟨hrel.1, hrel.2.1, hrel.2.2.1, fun q q1 q2 => by omega, fun q => by cases q⟩ hrun
      · -- the ending
        have n1 := k1.mp z1
        rw [if_pos n1] at hrun
        exact Or.inl ⟨made, _, g, bf, li, de, ⟨by rw [← hrun], by rw [← hrun], hma, fun j hj => by rw [← hrun]; exact hrel.1 j hj, hrel.2.1⟩, rfl, rfl⟩
  have init : ∀ (d k : Nat), k + d = 2 ^ m → zx_At p l e (zr 10 1 6) s mm (([.ref ma, .int (nI m)] : List Value)).toArray below meth c9 (zx_Q below s D zcl [(ma, .inr (5, [.int fl, .ref tp, .int (nI tn), .ref rp, .int (nI rn), .ref dp, .int (nI n), .ref wp, .int (nI 0), .int ba, .ref op, .int on, .ref bp, .ref lp, .ref ep, .int bb, .int bc, .int cw, .int cx, .int cf, .ref kp])), (dp, .inl (cB, 16384, .inl dt)), (wp, .inl (cB, 16384, .inl rw0)), (bp, .inl (cI, 4096, .inl bf0)), (lp, .inl (cI, 4096, .inl li0)), (ep, .inl (cI, 4096, .inl de0))] 0 0 (zr 10 1 6) (zp_unr ma tp rp dp wp op bp lp ep kp tn rn n m fl on bb bc cw cx cf dt ls0 ll0 rs0 rl0 f0 cB cI)) D zcl (va_A [(ma, .inr (5, [.int fl, .ref tp, .int (nI tn), .ref rp, .int (nI rn), .ref dp, .int (nI n), .ref wp, .int (nI 0), .int ba, .ref op, .int on, .ref bp, .ref lp, .ref ep, .int bb, .int bc, .int cw, .int cx, .int cf, .ref kp])), (dp, .inl (cB, 16384, .inl dt)), (wp, .inl (cB, 16384, .inl rw0)), (bp, .inl (cI, 4096, .inl bf0)), (lp, .inl (cI, 4096, .inl li0)), (ep, .inl (cI, 4096, .inl de0))] s.heap.size) 7 [(0, .ref ma), (1, .int (nI m)), (2, .int (nI (2 ^ m))), (3, .int (nI k))] [(ma, .inr (5, [.int fl, .ref tp, .int (nI tn), .ref rp, .int (nI rn), .ref dp, .int (nI n), .ref wp, .int (nI 0), .int ba, .ref op, .int on, .ref bp, .ref lp, .ref ep, .int bb, .int bc, .int cw, .int cx, .int cf, .ref kp])), (dp, .inl (cB, 16384, .inl dt)), (wp, .inl (cB, 16384, .inl rw0)), (bp, .inl (cI, 4096, .inl (zif bf0 (fun _ => -1) k))), (lp, .inl (cI, 4096, .inl (zif li0 nI k))), (ep, .inl (cI, 4096, .inl (zif de0 (fun _ => 1) k)))] 0 0 6 [] := by
    intro d
    induction d with
    | zero =>
      intro k hk
      have hk2 : k = 2 ^ m := by omega
      have key : nI (2 ^ m) ≤ nI k := by rw [hk2]; exact Int32.le_refl _
      refine sg_MR_6 C (fun _ => nI_add _ 2) (fun _ => nI_1 m) (fun _ => ?_) (fun z => absurd key z) (fun z => absurd key z) (fun z => absurd key z) (fun z => absurd key z) (fun z => absurd key z)
      exact loop (8 * n) 0 (m + 1) (2 ^ m + 2) true ls0 ll0 rs0 rl0 f0 rw0 0 _ _ _ 0 (by omega) (by omega) (zd_inv_new hm (by omega) hby0) ⟨by omega, fun q => by omega⟩ (fun _ => rfl) ⟨fun j hj => absurd hj (Nat.not_lt_zero _), hby, fun c hc => ⟨if_pos (by omega), if_pos (by omega), if_pos (by omega)⟩, fun q q1 q2 => by omega, fun q => by cases q⟩ rfl
    | succ d ih =>
      intro k hk
      have nk : ¬ nI (2 ^ m) ≤ nI k := fun z => absurd ((nI_leI (by omega) (by omega)).mp z) (by omega)
      refine sg_MR_6 C (fun z => absurd z nk) (fun z => absurd z nk) (fun z => absurd z nk) (fun _ => ⟨rfl, by omega⟩) (fun _ => ⟨rfl, by omega⟩) (fun _ => ⟨rfl, by omega⟩) (fun _ => nI_1 k) (fun _ => ?_)
      rw [zif_s _ nI, show upd (zif bf0 (fun _ => -1) k) k (-1 : Int32) = _ from zif_s bf0 (fun _ => -1) k, show upd (zif de0 (fun _ => 1) k) k (1 : Int32) = _ from zif_s de0 (fun _ => 1) k]
      exact ih (k + 1) (by omega)
  refine sg_MR_0 C (zp_shl1 m (by omega)) ?_
  have h0 := init (2 ^ m) 0 (by omega)
  rw [zif_0, zif_0, zif_0] at h0
  exact h0
