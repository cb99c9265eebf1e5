def zf (g : Nat → Nat) : Nat → Int32 := fun j => nI (g j)
def updN (g : Nat → Nat) (k v : Nat) : Nat → Nat := fun j => if j = k then v else g j
theorem zf_upd (g : Nat → Nat) (k v : Nat) : upd (zf g) k (nI v) = zf (updN g k v) := by
  funext j
  by_cases q : j = k
  · rw [q, pk_us]; simp [zf, updN]
  · rw [pk_un q]; simp [zf, updN, q]
theorem zb_d {P : Prop} [Decidable P] : zb (decide P) = 0 ↔ ¬ P := by by_cases h : P <;> simp [zb, h]
/-- the rows behind a code: where they begin, how long they are -/
def zd_rs (rs : Nat → Nat) (x ls : Nat) (fr : Bool) : Nat → Nat := if fr = false ∧ x < 4096 then updN rs x ls else rs
def zd_rl (rl : Nat → Nat) (x ll : Nat) (fr : Bool) : Nat → Nat := if fr = false ∧ x < 4096 then updN rl x (ll + 1) else rl
def zd_len (m c : Nat) (rl : Nat → Nat) : Nat := if c < 2 ^ m then 1 else rl c
def zd_out (m c : Nat) (f : Nat → Int32) (made : Nat) (rs rl : Nat → Nat) : Nat → Int32 := if c < 2 ^ m then upd f made (zby c) else zcp f made (rs c) (rl c)
set_option maxRecDepth 100000 in
set_option maxHeartbeats 4000000 in
theorem sg_UN_take0 {p : Program} {l : Launch} {e : Env} {s : State} {mi : MethodId} {args : Array Value} {below : List Frame} {meth : Method} {co : Code} {D : va_G} {cB cI cL : ClassId} {Q : State → Prop} {A : Nat → Prop} (C : zx_C p s mi args co b_UN_takeCode 5 R_UN zB D zcl (zt cB cI cL) A) {a na sa la ia m b x ls ll made c8 : Nat} {fr : Bool} {rs rl : Nat → Nat} {f : Nat → Int32} (hx : x < 2 ^ 31) (k43 : ((zb (!fr && decide (x < 4096))) = 0) → zx_At p l e (zr 8 1 6) s mi args below meth co Q D zcl A 5 [(0, .ref a), (1, .int (nI c8)), (2, .int (nI x))] [(a, .inr (2, [.ref na, .ref sa, .ref la, .ref ia, .int (nI made), .int (nI ls), .int (nI ll)])), (na, .inr (0, [.int (nI m), .int (nI b), .int (nI x), .int (zb fr)])), (sa, .inl (cI, 4096, .inl (zf rs))), (la, .inl (cI, 4096, .inl (zf rl))), (ia, .inl (cB, 16384, .inl f))] 0 0 43 []) (b27 : (¬ (zb (!fr && decide (x < 4096))) = 0) → (nI x) = nI x ∧ x < 4096) (e38 : (¬ (zb (!fr && decide (x < 4096))) = 0) → ((nI ll) + (1 : Int32)) = (nI (ll + 1))) (b39 : (¬ (zb (!fr && decide (x < 4096))) = 0) → (nI x) = nI x ∧ x < 4096) (e40 : (¬ (zb (!fr && decide (x < 4096))) = 0) → (nI x) + (1 : Int32) = (nI (x + 1))) (k43_2 : (¬ (zb (!fr && decide (x < 4096))) = 0) → zx_At p l e (zr 8 1 6) s mi args below meth co Q D zcl A 5 [(0, .ref a), (1, .int (nI c8)), (2, .int (nI (x + 1)))] [(a, .inr (2, [.ref na, .ref sa, .ref la, .ref ia, .int (nI made), .int (nI ls), .int (nI ll)])), (na, .inr (0, [.int (nI m), .int (nI b), .int (nI x), .int (zb fr)])), (sa, .inl (cI, 4096, .inl (upd (zf rs) x (nI ls)))), (la, .inl (cI, 4096, .inl (upd (zf rl) x (nI (ll + 1))))), (ia, .inl (cB, 16384, .inl f))] 0 0 43 []) : zx_At p l e (zr 8 1 6) s mi args below meth co Q D zcl A 5 [(0, .ref a), (1, .int (nI c8))] [(a, .inr (2, [.ref na, .ref sa, .ref la, .ref ia, .int (nI made), .int (nI ls), .int (nI ll)])), (na, .inr (0, [.int (nI m), .int (nI b), .int (nI x), .int (zb fr)])), (sa, .inl (cI, 4096, .inl (zf rs))), (la, .inl (cI, 4096, .inl (zf rl))), (ia, .inl (cB, 16384, .inl f))] 0 0 0 [] := by
  refine zx_aload_n (pc := 0) C d_UN_takeCode_0 rfl 0 rfl ?_
  refine zx_get (pc := 1) (ci := 2) (Cn := R_UN) (T := T_UN) (N := 7) (v := .ref na) C zu_UN 0 rfl rfl 0 (by decide) zw_63 rfl rfl d_UN_takeCode_1 ?_
  refine zx_getN (pc := 4) (ci := 0) (Cn := R_NU) (T := T_NU) (N := 4) (v := .int (nI x)) C zu_NU 1 rfl rfl 2 (by decide) zw_50 rfl rfl d_UN_takeCode_4 ?_
  refine zx_istore_n (pc := 7) C d_UN_takeCode_7 rfl (by decide) (lv' := [(2, .int (nI x)), (0, .ref a), (1, .int (nI c8))]) rfl ?_
  refine zx_aload_n (pc := 8) C d_UN_takeCode_8 rfl 1 rfl ?_
  refine zx_get (pc := 9) (ci := 2) (Cn := R_UN) (T := T_UN) (N := 7) (v := .ref na) C zu_UN 0 rfl rfl 0 (by decide) zw_63 rfl rfl d_UN_takeCode_9 ?_
  refine zx_callV (pc := 12) (ix := 73) (As := []) (b := na) (q0 := 1) (wr := [(a, .inr (2, [.ref na, .ref sa, .ref la, .ref ia, .int (nI made), .int (nI ls), .int (nI ll)])), (sa, .inl (cI, 4096, .inl (zf rs))), (la, .inl (cI, 4096, .inl (zf rl))), (ia, .inl (cB, 16384, .inl f))]) (st := []) C (zx_cw.of (C.w zw_305)) (by decide +kernel) ⟨by decide +kernel, by decide +kernel⟩ zw_303 zw_304 zw_302 rfl rfl rfl rfl rfl (k_NU_nextCodeMakesRow l D cB cI cL na x (nI m) (nI b) fr hx) rfl [1] [0, 2, 3, 4] rfl rfl (by decide) (by decide) (by decide) (Nat.le_of_ble_eq_true rfl) (Nat.le_of_ble_eq_true rfl) (Nat.le_of_ble_eq_true rfl) (Nat.le_of_ble_eq_true rfl) d_UN_takeCode_12 (fun o w1 hp => ?_)
  obtain ⟨rfl, rfl⟩ := hp
  refine zx_ri (k2 := 0) (n2 := 0) rfl rfl ?_
  refine zx_ws (ws' := [(a, .inr (2, [.ref na, .ref sa, .ref la, .ref ia, .int (nI made), .int (nI ls), .int (nI ll)])), (na, .inr (0, [.int (nI m), .int (nI b), .int (nI x), .int (zb fr)])), (sa, .inl (cI, 4096, .inl (zf rs))), (la, .inl (cI, 4096, .inl (zf rl))), (ia, .inl (cB, 16384, .inl f))]) [0, 4, 1, 2, 3] (by decide) rfl ?_
  refine zx_if_eq (pc := 15) C 43 d_UN_takeCode_15 (by decide) (fun c15 => ?_) (fun c15 => ?_)
  · refine zx_lv (lv' := [(0, .ref a), (1, .int (nI c8)), (2, .int (nI x))]) [1, 2, 0] rfl ?_
    exact k43 c15
  · refine zx_aload_n (pc := 18) C d_UN_takeCode_18 rfl 1 rfl ?_
    refine zx_get (pc := 19) (ci := 2) (Cn := R_UN) (T := T_UN) (N := 7) (v := .ref sa) C zu_UN 0 rfl rfl 1 (by decide) zw_64 rfl rfl d_UN_takeCode_19 ?_
    refine zx_iload_n (pc := 22) C d_UN_takeCode_22 rfl 0 rfl ?_
    refine zx_aload_n (pc := 23) C d_UN_takeCode_23 rfl 1 rfl ?_
    refine zx_get (pc := 24) (ci := 2) (Cn := R_UN) (T := T_UN) (N := 7) (v := .int (nI ls)) C zu_UN 0 rfl rfl 5 (by decide) zw_68 rfl rfl d_UN_takeCode_24 ?_
    refine zx_iast (pc := 27) (ws' := [(a, .inr (2, [.ref na, .ref sa, .ref la, .ref ia, .int (nI made), .int (nI ls), .int (nI ll)])), (na, .inr (0, [.int (nI m), .int (nI b), .int (nI x), .int (zb fr)])), (sa, .inl (cI, 4096, .inl (upd (zf rs) x (nI ls)))), (la, .inl (cI, 4096, .inl (zf rl))), (ia, .inl (cB, 16384, .inl f))]) C 2 1 rfl rfl x (b27 c15).1 (b27 c15).2 (by decide) rfl d_UN_takeCode_27 ?_
    refine zx_aload_n (pc := 28) C d_UN_takeCode_28 rfl 1 rfl ?_
    refine zx_get (pc := 29) (ci := 2) (Cn := R_UN) (T := T_UN) (N := 7) (v := .ref la) C zu_UN 0 rfl rfl 2 (by decide) zw_65 rfl rfl d_UN_takeCode_29 ?_
    refine zx_iload_n (pc := 32) C d_UN_takeCode_32 rfl 0 rfl ?_
    refine zx_aload_n (pc := 33) C d_UN_takeCode_33 rfl 1 rfl ?_
    refine zx_get (pc := 34) (ci := 2) (Cn := R_UN) (T := T_UN) (N := 7) (v := .int (nI ll)) C zu_UN 0 rfl rfl 6 (by decide) zw_69 rfl rfl d_UN_takeCode_34 ?_
    refine zx_iconst (pc := 37) C d_UN_takeCode_37 (v := (1 : Int32)) (by decide) ?_
    refine zx_iadd (pc := 38) C d_UN_takeCode_38 ?_
    refine zx_seti (nI (ll + 1)) (e38 c15) ?_
    refine zx_iast (pc := 39) (ws' := [(a, .inr (2, [.ref na, .ref sa, .ref la, .ref ia, .int (nI made), .int (nI ls), .int (nI ll)])), (na, .inr (0, [.int (nI m), .int (nI b), .int (nI x), .int (zb fr)])), (sa, .inl (cI, 4096, .inl (upd (zf rs) x (nI ls)))), (la, .inl (cI, 4096, .inl (upd (zf rl) x (nI (ll + 1))))), (ia, .inl (cB, 16384, .inl f))]) C 3 1 rfl rfl x (b39 c15).1 (b39 c15).2 (by decide) rfl d_UN_takeCode_39 ?_
    refine zx_iinc (pc := 40) C d_UN_takeCode_40 0 rfl (v := (nI (x + 1))) (e40 c15) (by decide) (lv' := [(2, .int (nI (x + 1))), (0, .ref a), (1, .int (nI c8))]) rfl ?_
    refine zx_lv (lv' := [(0, .ref a), (1, .int (nI c8)), (2, .int (nI (x + 1)))]) [1, 2, 0] rfl ?_
    exact k43_2 c15

set_option maxRecDepth 100000 in
set_option maxHeartbeats 4000000 in
theorem sg_UN_take43 {p : Program} {l : Launch} {e : Env} {s : State} {mi : MethodId} {args : Array Value} {below : List Frame} {meth : Method} {co : Code} {D : va_G} {cB cI cL : ClassId} {w0 : va_W} {kr nr : Nat} {post : Outcome → va_W → Prop} (C : zx_C p s mi args co b_UN_takeCode 5 R_UN zB D zcl (zt cB cI cL) (va_A w0 s.heap.size)) {a na sa la ia m b x ls ll made c8 : Nat} {fr : Bool} {rs rl : Nat → Nat} {f : Nat → Int32} {kn : Nat} (hm : m < 16) (hc : c8 < 2 ^ 31) (hr9 : meth.sig.returnType = none) (hlk9 : meth.locks = false) (hl9 : l.stackTraces = false) (ht9 : co.exceptionTable.toList.map (fun h => (h.startPc, h.endPc, h.handlerPc, h.catchType)) = []) (b80 : ((nI c8) < (nI kn)) → ((zb (decide (c8 < 2 ^ m))) = 0) → (nI c8) = nI c8 ∧ c8 < 4096) (e80 : ((nI c8) < (nI kn)) → ((zb (decide (c8 < 2 ^ m))) = 0) → ((zf rl) c8) = (nI (rl c8))) (k83 : ((nI c8) < (nI kn)) → ((zb (decide (c8 < 2 ^ m))) = 0) → zx_At p l e (zr 8 1 6) s mi args below meth co (zx_Q below s D zcl w0 kr nr (zr 8 1 6) post) D zcl (va_A w0 s.heap.size) 5 [(0, .ref a), (1, .int (nI c8)), (2, .int (nI kn)), (3, .int (zb (decide (c8 < 2 ^ m)))), (4, .int (nI (rl c8)))] [(a, .inr (2, [.ref na, .ref sa, .ref la, .ref ia, .int (nI made), .int (nI ls), .int (nI ll)])), (na, .inr (0, [.int (nI m), .int (nI b), .int (nI x), .int (zb fr)])), (sa, .inl (cI, 4096, .inl (zf rs))), (la, .inl (cI, 4096, .inl (zf rl))), (ia, .inl (cB, 16384, .inl f))] 0 0 83 []) (k83_2 : ((nI c8) < (nI kn)) → (¬ (zb (decide (c8 < 2 ^ m))) = 0) → zx_At p l e (zr 8 1 6) s mi args below meth co (zx_Q below s D zcl w0 kr nr (zr 8 1 6) post) D zcl (va_A w0 s.heap.size) 5 [(0, .ref a), (1, .int (nI c8)), (2, .int (nI kn)), (3, .int (zb (decide (c8 < 2 ^ m)))), (4, .int (1 : Int32))] [(a, .inr (2, [.ref na, .ref sa, .ref la, .ref ia, .int (nI made), .int (nI ls), .int (nI ll)])), (na, .inr (0, [.int (nI m), .int (nI b), .int (nI x), .int (zb fr)])), (sa, .inl (cI, 4096, .inl (zf rs))), (la, .inl (cI, 4096, .inl (zf rl))), (ia, .inl (cB, 16384, .inl f))] 0 0 83 []) (t48 : (¬ (nI c8) < (nI kn)) → ∀ x9 : Nat, post (.threw x9) [(a, .inr (2, [.ref na, .ref sa, .ref la, .ref ia, .int (nI made), .int (nI ls), .int (nI ll)])), (na, .inr (0, [.int (nI m), .int (nI b), .int (nI x), .int (zb fr)])), (sa, .inl (cI, 4096, .inl (zf rs))), (la, .inl (cI, 4096, .inl (zf rl))), (ia, .inl (cB, 16384, .inl f)), (x9, .inr (7, []))]) : zx_At p l e (zr 8 1 6) s mi args below meth co (zx_Q below s D zcl w0 kr nr (zr 8 1 6) post) D zcl (va_A w0 s.heap.size) 5 [(0, .ref a), (1, .int (nI c8)), (2, .int (nI kn))] [(a, .inr (2, [.ref na, .ref sa, .ref la, .ref ia, .int (nI made), .int (nI ls), .int (nI ll)])), (na, .inr (0, [.int (nI m), .int (nI b), .int (nI x), .int (zb fr)])), (sa, .inl (cI, 4096, .inl (zf rs))), (la, .inl (cI, 4096, .inl (zf rl))), (ia, .inl (cB, 16384, .inl f))] 0 0 43 [] := by
  refine zx_iload_n (pc := 43) C d_UN_takeCode_43 rfl 1 rfl ?_
  refine zx_iload_n (pc := 44) C d_UN_takeCode_44 rfl 2 rfl ?_
  refine zx_icmp_lt (pc := 45) C 58 d_UN_takeCode_45 (by decide) (fun c45 => ?_) (fun c45 => ?_)
  · refine zx_aload_n (pc := 58) C d_UN_takeCode_58 rfl 0 rfl ?_
    refine zx_get (pc := 59) (ci := 2) (Cn := R_UN) (T := T_UN) (N := 7) (v := .ref na) C zu_UN 0 rfl rfl 0 (by decide) zw_63 rfl rfl d_UN_takeCode_59 ?_
    refine zx_iload_n (pc := 62) C d_UN_takeCode_62 rfl 1 rfl ?_
    refine zx_callV (pc := 63) (ix := 79) (As := [.int (nI c8)]) (b := na) (q0 := 1) (wr := [(a, .inr (2, [.ref na, .ref sa, .ref la, .ref ia, .int (nI made), .int (nI ls), .int (nI ll)])), (sa, .inl (cI, 4096, .inl (zf rs))), (la, .inl (cI, 4096, .inl (zf rl))), (ia, .inl (cB, 16384, .inl f))]) (st := []) C (zx_cw.of (C.w zw_329)) (by decide +kernel) ⟨by decide +kernel, by decide +kernel⟩ zw_327 zw_328 zw_326 rfl rfl rfl rfl rfl (k_NU_isIndex l D cB cI cL (zr 0 0 0) na m c8 (nI b) (nI x) (zb fr) hm hc) rfl [1] [0, 2, 3, 4] rfl rfl (by decide) (by decide) (by decide) (Nat.le_of_ble_eq_true rfl) (Nat.le_of_ble_eq_true rfl) (Nat.le_of_ble_eq_true rfl) (Nat.le_of_ble_eq_true rfl) d_UN_takeCode_63 (fun o w1 hp => ?_)
    obtain ⟨rfl, rfl⟩ := hp
    refine zx_ri (k2 := 0) (n2 := 0) rfl rfl ?_
    refine zx_ws (ws' := [(a, .inr (2, [.ref na, .ref sa, .ref la, .ref ia, .int (nI made), .int (nI ls), .int (nI ll)])), (na, .inr (0, [.int (nI m), .int (nI b), .int (nI x), .int (zb fr)])), (sa, .inl (cI, 4096, .inl (zf rs))), (la, .inl (cI, 4096, .inl (zf rl))), (ia, .inl (cB, 16384, .inl f))]) [0, 4, 1, 2, 3] (by decide) rfl ?_
    refine zx_istore_n (pc := 66) C d_UN_takeCode_66 rfl (by decide) (lv' := [(3, .int (zb (decide (c8 < 2 ^ m)))), (0, .ref a), (1, .int (nI c8)), (2, .int (nI kn))]) rfl ?_
    refine zx_iload_n (pc := 67) C d_UN_takeCode_67 rfl 0 rfl ?_
    refine zx_if_eq (pc := 68) C 75 d_UN_takeCode_68 (by decide) (fun c68 => ?_) (fun c68 => ?_)
    · refine zx_aload_n (pc := 75) C d_UN_takeCode_75 rfl 1 rfl ?_
      refine zx_get (pc := 76) (ci := 2) (Cn := R_UN) (T := T_UN) (N := 7) (v := .ref la) C zu_UN 0 rfl rfl 2 (by decide) zw_65 rfl rfl d_UN_takeCode_76 ?_
      refine zx_iload_n (pc := 79) C d_UN_takeCode_79 rfl 2 rfl ?_
      refine zx_iald (pc := 80) C 3 1 rfl rfl c8 (b80 c45 c68).1 (b80 c45 c68).2 (by decide) d_UN_takeCode_80 ?_
      refine zx_seti (nI (rl c8)) (e80 c45 c68) ?_
      refine zx_istore (pc := 81) C d_UN_takeCode_81 (by decide) (lv' := [(4, .int (nI (rl c8))), (3, .int (zb (decide (c8 < 2 ^ m)))), (0, .ref a), (1, .int (nI c8)), (2, .int (nI kn))]) rfl ?_
      refine zx_lv (lv' := [(0, .ref a), (1, .int (nI c8)), (2, .int (nI kn)), (3, .int (zb (decide (c8 < 2 ^ m)))), (4, .int (nI (rl c8)))]) [2, 3, 4, 1, 0] rfl ?_
      exact k83 c45 c68
    · refine zx_iconst (pc := 71) C d_UN_takeCode_71 (v := (1 : Int32)) (by decide) ?_
      refine zx_goto (pc := 72) C 81 d_UN_takeCode_72 (by decide) ?_
      refine zx_istore (pc := 81) C d_UN_takeCode_81 (by decide) (lv' := [(4, .int (1 : Int32)), (3, .int (zb (decide (c8 < 2 ^ m)))), (0, .ref a), (1, .int (nI c8)), (2, .int (nI kn))]) rfl ?_
      refine zx_lv (lv' := [(0, .ref a), (1, .int (nI c8)), (2, .int (nI kn)), (3, .int (zb (decide (c8 < 2 ^ m)))), (4, .int (1 : Int32))]) [2, 3, 4, 1, 0] rfl ?_
      exact k83_2 c45 c68
  · exact zx_throwS (pc := 48) (names := zex) (ci := 7) C hl9 (by decide +kernel) zex_fit zw_310 zw_13 zw_319 zh_UN_67 rfl hlk9 (zx_noTab ht9 _) d_UN_takeCode_48 d_UN_takeCode_51 d_UN_takeCode_52 d_UN_takeCode_54 d_UN_takeCode_57 (Nat.le_of_ble_eq_true rfl) (Nat.le_of_ble_eq_true rfl) (Nat.le_of_ble_eq_true rfl) (Nat.le_of_ble_eq_true rfl) (t48 c45)

set_option maxRecDepth 100000 in
set_option maxHeartbeats 4000000 in
theorem sg_UN_take83 {p : Program} {l : Launch} {e : Env} {s : State} {mi : MethodId} {args : Array Value} {below : List Frame} {meth : Method} {co : Code} {D : va_G} {cB cI cL : ClassId} {w0 : va_W} {kr nr : Nat} {post : Outcome → va_W → Prop} (C : zx_C p s mi args co b_UN_takeCode 5 R_UN zB D zcl (zt cB cI cL) (va_A w0 s.heap.size)) {a na sa la ia m b x ls ll made c8 : Nat} {fr : Bool} {rs rl : Nat → Nat} {f : Nat → Int32} {kn len : Nat} {sg : Bool} (hby : ∀ j, vp_nar .byte (f j) = f j) (hrep : nI len ≤ nI (16384 - made) → zb sg = 0 → made + len ≤ 16384 ∧ rs c8 ≤ made) (hr9 : meth.sig.returnType = none) (hlk9 : meth.locks = false) (hl9 : l.stackTraces = false) (ht9 : co.exceptionTable.toList.map (fun h => (h.startPc, h.endPc, h.handlerPc, h.catchType)) = []) (e92 : ((16384 : Int32) - (nI made)) = (nI (16384 - made))) (b130 : ((nI len) ≤ (nI (16384 - made))) → ((zb sg) = 0) → (nI c8) = nI c8 ∧ c8 < 4096) (e130 : ((nI len) ≤ (nI (16384 - made))) → ((zb sg) = 0) → ((zf rs) c8) = (nI (rs c8))) (k136 : ((nI len) ≤ (nI (16384 - made))) → ((zb sg) = 0) → zx_At p l e (zr 8 1 6) s mi args below meth co (zx_Q below s D zcl w0 kr nr (zr 8 1 6) post) D zcl (va_A w0 s.heap.size) 5 [(0, .ref a), (1, .int (nI c8)), (2, .int (nI kn)), (3, .int (zb sg)), (4, .int (nI len))] [(a, .inr (2, [.ref na, .ref sa, .ref la, .ref ia, .int (nI made), .int (nI ls), .int (nI ll)])), (na, .inr (0, [.int (nI m), .int (nI b), .int (nI x), .int (zb fr)])), (sa, .inl (cI, 4096, .inl (zf rs))), (la, .inl (cI, 4096, .inl (zf rl))), (ia, .inl (cB, 16384, .inl (zcp f made (rs c8) len)))] 0 0 136 []) (e119 : ((nI len) ≤ (nI (16384 - made))) → (¬ (zb sg) = 0) → ((nI c8).toInt8.toInt32) = (zby c8)) (b120 : ((nI len) ≤ (nI (16384 - made))) → (¬ (zb sg) = 0) → (nI made) = nI made ∧ made < 16384) (k136_2 : ((nI len) ≤ (nI (16384 - made))) → (¬ (zb sg) = 0) → zx_At p l e (zr 8 1 6) s mi args below meth co (zx_Q below s D zcl w0 kr nr (zr 8 1 6) post) D zcl (va_A w0 s.heap.size) 5 [(0, .ref a), (1, .int (nI c8)), (2, .int (nI kn)), (3, .int (zb sg)), (4, .int (nI len))] [(a, .inr (2, [.ref na, .ref sa, .ref la, .ref ia, .int (nI made), .int (nI ls), .int (nI ll)])), (na, .inr (0, [.int (nI m), .int (nI b), .int (nI x), .int (zb fr)])), (sa, .inl (cI, 4096, .inl (zf rs))), (la, .inl (cI, 4096, .inl (zf rl))), (ia, .inl (cB, 16384, .inl (upd f made (vp_nar .byte (zby c8)))))] 0 0 136 []) (t96 : (¬ (nI len) ≤ (nI (16384 - made))) → ∀ x9 : Nat, post (.threw x9) [(a, .inr (2, [.ref na, .ref sa, .ref la, .ref ia, .int (nI made), .int (nI ls), .int (nI ll)])), (na, .inr (0, [.int (nI m), .int (nI b), .int (nI x), .int (zb fr)])), (sa, .inl (cI, 4096, .inl (zf rs))), (la, .inl (cI, 4096, .inl (zf rl))), (ia, .inl (cB, 16384, .inl f)), (x9, .inr (8, []))]) : zx_At p l e (zr 8 1 6) s mi args below meth co (zx_Q below s D zcl w0 kr nr (zr 8 1 6) post) D zcl (va_A w0 s.heap.size) 5 [(0, .ref a), (1, .int (nI c8)), (2, .int (nI kn)), (3, .int (zb sg)), (4, .int (nI len))] [(a, .inr (2, [.ref na, .ref sa, .ref la, .ref ia, .int (nI made), .int (nI ls), .int (nI ll)])), (na, .inr (0, [.int (nI m), .int (nI b), .int (nI x), .int (zb fr)])), (sa, .inl (cI, 4096, .inl (zf rs))), (la, .inl (cI, 4096, .inl (zf rl))), (ia, .inl (cB, 16384, .inl f))] 0 0 83 [] := by
  refine zx_iload (pc := 83) C d_UN_takeCode_83 4 rfl ?_
  refine zx_sipush (pc := 85) C d_UN_takeCode_85 (v := (16384 : Int32)) (by decide) ?_
  refine zx_aload_n (pc := 88) C d_UN_takeCode_88 rfl 0 rfl ?_
  refine zx_get (pc := 89) (ci := 2) (Cn := R_UN) (T := T_UN) (N := 7) (v := .int (nI made)) C zu_UN 0 rfl rfl 4 (by decide) zw_67 rfl rfl d_UN_takeCode_89 ?_
  refine zx_isub (pc := 92) C d_UN_takeCode_92 ?_
  refine zx_seti (nI (16384 - made)) (e92) ?_
  refine zx_icmp_le (pc := 93) C 106 d_UN_takeCode_93 (by decide) (fun c93 => ?_) (fun c93 => ?_)
  · refine zx_iload_n (pc := 106) C d_UN_takeCode_106 rfl 3 rfl ?_
    refine zx_if_eq (pc := 107) C 124 d_UN_takeCode_107 (by decide) (fun c107 => ?_) (fun c107 => ?_)
    · refine zx_aload_n (pc := 124) C d_UN_takeCode_124 rfl 0 rfl ?_
      refine zx_aload_n (pc := 125) C d_UN_takeCode_125 rfl 0 rfl ?_
      refine zx_get (pc := 126) (ci := 2) (Cn := R_UN) (T := T_UN) (N := 7) (v := .ref sa) C zu_UN 0 rfl rfl 1 (by decide) zw_64 rfl rfl d_UN_takeCode_126 ?_
      refine zx_iload_n (pc := 129) C d_UN_takeCode_129 rfl 1 rfl ?_
      refine zx_iald (pc := 130) C 2 1 rfl rfl c8 (b130 c93 c107).1 (b130 c93 c107).2 (by decide) d_UN_takeCode_130 ?_
      refine zx_seti (nI (rs c8)) (e130 c93 c107) ?_
      refine zx_iload (pc := 131) C d_UN_takeCode_131 4 rfl ?_
      refine zx_callV (pc := 133) (ix := 88) (As := [.int (nI (rs c8)), .int (nI len)]) (b := a) (q0 := 0) (wr := [(na, .inr (0, [.int (nI m), .int (nI b), .int (nI x), .int (zb fr)])), (sa, .inl (cI, 4096, .inl (zf rs))), (la, .inl (cI, 4096, .inl (zf rl)))]) (st := []) C (zx_cw.of (C.w zw_336)) (by decide +kernel) ⟨by decide +kernel, by decide +kernel⟩ zw_335 zs_UN_repeat zw_333 rfl rfl rfl rfl rfl (k_UN_repeat l D cB cI cL (zr 0 0 0) a na sa la ia made (rs c8) len (nI ls) (nI ll) f hby (hrep c93 c107).1 (hrep c93 c107).2) rfl [0, 4] [1, 2, 3] rfl rfl (by decide) (by decide) (by decide) (Nat.le_of_ble_eq_true rfl) (Nat.le_of_ble_eq_true rfl) (Nat.le_of_ble_eq_true rfl) (Nat.le_of_ble_eq_true rfl) d_UN_takeCode_133 (fun o w1 hp => ?_)
      obtain ⟨rfl, rfl⟩ := hp
      refine zx_rv (k2 := 0) (n2 := 0) rfl rfl ?_
      refine zx_ws (ws' := [(a, .inr (2, [.ref na, .ref sa, .ref la, .ref ia, .int (nI made), .int (nI ls), .int (nI ll)])), (na, .inr (0, [.int (nI m), .int (nI b), .int (nI x), .int (zb fr)])), (sa, .inl (cI, 4096, .inl (zf rs))), (la, .inl (cI, 4096, .inl (zf rl))), (ia, .inl (cB, 16384, .inl (zcp f made (rs c8) len)))]) [3, 0, 1, 2, 4] (by decide) rfl ?_
      exact k136 c93 c107
    · refine zx_aload_n (pc := 110) C d_UN_takeCode_110 rfl 0 rfl ?_
      refine zx_get (pc := 111) (ci := 2) (Cn := R_UN) (T := T_UN) (N := 7) (v := .ref ia) C zu_UN 0 rfl rfl 3 (by decide) zw_66 rfl rfl d_UN_takeCode_111 ?_
      refine zx_aload_n (pc := 114) C d_UN_takeCode_114 rfl 0 rfl ?_
      refine zx_get (pc := 115) (ci := 2) (Cn := R_UN) (T := T_UN) (N := 7) (v := .int (nI made)) C zu_UN 0 rfl rfl 4 (by decide) zw_67 rfl rfl d_UN_takeCode_115 ?_
      refine zx_iload_n (pc := 118) C d_UN_takeCode_118 rfl 1 rfl ?_
      refine zx_i2b (pc := 119) C d_UN_takeCode_119 rfl ?_
      refine zx_seti (zby c8) (e119 c93 c107) ?_
      refine zx_bast (pc := 120) (ws' := [(a, .inr (2, [.ref na, .ref sa, .ref la, .ref ia, .int (nI made), .int (nI ls), .int (nI ll)])), (na, .inr (0, [.int (nI m), .int (nI b), .int (nI x), .int (zb fr)])), (sa, .inl (cI, 4096, .inl (zf rs))), (la, .inl (cI, 4096, .inl (zf rl))), (ia, .inl (cB, 16384, .inl (upd f made (vp_nar .byte (zby c8)))))]) C 4 0 rfl rfl made (b120 c93 c107).1 (b120 c93 c107).2 (by decide) rfl d_UN_takeCode_120 ?_
      refine zx_goto (pc := 121) C 136 d_UN_takeCode_121 (by decide) ?_
      exact k136_2 c93 c107
  · exact zx_throwS (pc := 96) (names := zex) (ci := 8) C hl9 (by decide +kernel) zex_fit zw_330 zw_10 zw_331 zh_UN_87 rfl hlk9 (zx_noTab ht9 _) d_UN_takeCode_96 d_UN_takeCode_99 d_UN_takeCode_100 d_UN_takeCode_102 d_UN_takeCode_105 (Nat.le_of_ble_eq_true rfl) (Nat.le_of_ble_eq_true rfl) (Nat.le_of_ble_eq_true rfl) (Nat.le_of_ble_eq_true rfl) (t96 c93)

set_option maxRecDepth 100000 in
set_option maxHeartbeats 4000000 in
theorem sg_UN_take136 {p : Program} {l : Launch} {e : Env} {s : State} {mi : MethodId} {args : Array Value} {below : List Frame} {meth : Method} {co : Code} {D : va_G} {cB cI cL : ClassId} {w0 : va_W} {kr nr : Nat} {post : Outcome → va_W → Prop} (C : zx_C p s mi args co b_UN_takeCode 5 R_UN zB D zcl (zt cB cI cL) (va_A w0 s.heap.size)) {a na sa la ia m b x ls ll made c8 : Nat} {fr : Bool} {rs rl : Nat → Nat} {f : Nat → Int32} {kn len : Nat} {sg : Bool} (hb : b < 16) (hx : x ≤ 4096) (hr9 : meth.sig.returnType = none) (hlk9 : meth.locks = false) (e157 : ((nI made) + (nI len)) = (nI (made + len))) (r168 : post (.returned none) [(a, .inr (2, [.ref na, .ref sa, .ref la, .ref ia, .int (nI (made + len)), .int (nI made), .int (nI len)])), (na, .inr (0, [.int (nI m), .int (nI (zn_b b x fr)), .int (nI (zn_x x fr)), .int 0])), (sa, .inl (cI, 4096, .inl (zf rs))), (la, .inl (cI, 4096, .inl (zf rl))), (ia, .inl (cB, 16384, .inl f))]) : zx_At p l e (zr 8 1 6) s mi args below meth co (zx_Q below s D zcl w0 kr nr (zr 8 1 6) post) D zcl (va_A w0 s.heap.size) 5 [(0, .ref a), (1, .int (nI c8)), (2, .int (nI kn)), (3, .int (zb sg)), (4, .int (nI len))] [(a, .inr (2, [.ref na, .ref sa, .ref la, .ref ia, .int (nI made), .int (nI ls), .int (nI ll)])), (na, .inr (0, [.int (nI m), .int (nI b), .int (nI x), .int (zb fr)])), (sa, .inl (cI, 4096, .inl (zf rs))), (la, .inl (cI, 4096, .inl (zf rl))), (ia, .inl (cB, 16384, .inl f))] 0 0 136 [] := by
  refine zx_aload_n (pc := 136) C d_UN_takeCode_136 rfl 0 rfl ?_
  refine zx_aload_n (pc := 137) C d_UN_takeCode_137 rfl 0 rfl ?_
  refine zx_get (pc := 138) (ci := 2) (Cn := R_UN) (T := T_UN) (N := 7) (v := .int (nI made)) C zu_UN 0 rfl rfl 4 (by decide) zw_67 rfl rfl d_UN_takeCode_138 ?_
  refine zx_put (pc := 141) (ci := 2) (Cn := R_UN) (T := T_UN) (N := 7) (v := .int (nI made)) (ty := .int) (ws' := [(a, .inr (2, [.ref na, .ref sa, .ref la, .ref ia, .int (nI made), .int (nI made), .int (nI ll)])), (na, .inr (0, [.int (nI m), .int (nI b), .int (nI x), .int (zb fr)])), (sa, .inl (cI, 4096, .inl (zf rs))), (la, .inl (cI, 4096, .inl (zf rl))), (ia, .inl (cB, 16384, .inl f))]) C zu_UN ty_UN tyk_UN nm_UN 0 rfl rfl 5 (by decide) zw_68 rfl rfl (by decide +kernel) rfl rfl (Nat.le_of_ble_eq_true rfl) rfl d_UN_takeCode_141 ?_
  refine zx_aload_n (pc := 144) C d_UN_takeCode_144 rfl 0 rfl ?_
  refine zx_iload (pc := 145) C d_UN_takeCode_145 4 rfl ?_
  refine zx_put (pc := 147) (ci := 2) (Cn := R_UN) (T := T_UN) (N := 7) (v := .int (nI len)) (ty := .int) (ws' := [(a, .inr (2, [.ref na, .ref sa, .ref la, .ref ia, .int (nI made), .int (nI made), .int (nI len)])), (na, .inr (0, [.int (nI m), .int (nI b), .int (nI x), .int (zb fr)])), (sa, .inl (cI, 4096, .inl (zf rs))), (la, .inl (cI, 4096, .inl (zf rl))), (ia, .inl (cB, 16384, .inl f))]) C zu_UN ty_UN tyk_UN nm_UN 0 rfl rfl 6 (by decide) zw_69 rfl rfl (by decide +kernel) rfl rfl (Nat.le_of_ble_eq_true rfl) rfl d_UN_takeCode_147 ?_
  refine zx_aload_n (pc := 150) C d_UN_takeCode_150 rfl 0 rfl ?_
  refine zx_dup (pc := 151) C d_UN_takeCode_151 rfl ?_
  refine zx_get (pc := 152) (ci := 2) (Cn := R_UN) (T := T_UN) (N := 7) (v := .int (nI made)) C zu_UN 0 rfl rfl 4 (by decide) zw_67 rfl rfl d_UN_takeCode_152 ?_
  refine zx_iload (pc := 155) C d_UN_takeCode_155 4 rfl ?_
  refine zx_iadd (pc := 157) C d_UN_takeCode_157 ?_
  refine zx_seti (nI (made + len)) (e157) ?_
  refine zx_put (pc := 158) (ci := 2) (Cn := R_UN) (T := T_UN) (N := 7) (v := .int (nI (made + len))) (ty := .int) (ws' := [(a, .inr (2, [.ref na, .ref sa, .ref la, .ref ia, .int (nI (made + len)), .int (nI made), .int (nI len)])), (na, .inr (0, [.int (nI m), .int (nI b), .int (nI x), .int (zb fr)])), (sa, .inl (cI, 4096, .inl (zf rs))), (la, .inl (cI, 4096, .inl (zf rl))), (ia, .inl (cB, 16384, .inl f))]) C zu_UN ty_UN tyk_UN nm_UN 0 rfl rfl 4 (by decide) zw_67 rfl rfl (by decide +kernel) rfl rfl (Nat.le_of_ble_eq_true rfl) rfl d_UN_takeCode_158 ?_
  refine zx_aload_n (pc := 161) C d_UN_takeCode_161 rfl 0 rfl ?_
  refine zx_get (pc := 162) (ci := 2) (Cn := R_UN) (T := T_UN) (N := 7) (v := .ref na) C zu_UN 0 rfl rfl 0 (by decide) zw_63 rfl rfl d_UN_takeCode_162 ?_
  refine zx_callV (pc := 165) (ix := 92) (As := []) (b := na) (q0 := 1) (wr := [(a, .inr (2, [.ref na, .ref sa, .ref la, .ref ia, .int (nI (made + len)), .int (nI made), .int (nI len)])), (sa, .inl (cI, 4096, .inl (zf rs))), (la, .inl (cI, 4096, .inl (zf rl))), (ia, .inl (cB, 16384, .inl f))]) (st := []) C (zx_cw.of (C.w zw_340)) (by decide +kernel) ⟨by decide +kernel, by decide +kernel⟩ zw_338 zw_339 zw_337 rfl rfl rfl rfl rfl (k_NU_passCode l D cB cI cL na b x (nI m) fr hb hx) rfl [1] [0, 2, 3, 4] rfl rfl (by decide) (by decide) (by decide) (Nat.le_of_ble_eq_true rfl) (Nat.le_of_ble_eq_true rfl) (Nat.le_of_ble_eq_true rfl) (Nat.le_of_ble_eq_true rfl) d_UN_takeCode_165 (fun o w1 hp => ?_)
  obtain ⟨rfl, rfl⟩ := hp
  refine zx_rv (k2 := 0) (n2 := 0) rfl rfl ?_
  refine zx_ws (ws' := [(a, .inr (2, [.ref na, .ref sa, .ref la, .ref ia, .int (nI (made + len)), .int (nI made), .int (nI len)])), (na, .inr (0, [.int (nI m), .int (nI (zn_b b x fr)), .int (nI (zn_x x fr)), .int 0])), (sa, .inl (cI, 4096, .inl (zf rs))), (la, .inl (cI, 4096, .inl (zf rl))), (ia, .inl (cB, 16384, .inl f))]) [0, 4, 1, 2, 3] (by decide) rfl ?_
  exact zx_vret (pc := 168) C hr9 hlk9 (Nat.zero_le _) (Nat.zero_le _) d_UN_takeCode_168 (r168)

/-- what takeCode gives: no such row; too many; the code taken -/
def zp_take (a na sa la ia m b x ls ll made c8 : Nat) (fr : Bool) (rs rl : Nat → Nat) (f : Nat → Int32) (cB cI : ClassId) : Outcome → va_W → Prop := fun o w =>
  (zn_x x fr ≤ c8 ∧ ∃ x0 : Nat, o = .threw x0 ∧ w = [(a, .inr (2, [.ref na, .ref sa, .ref la, .ref ia, .int (nI made), .int (nI ls), .int (nI ll)])), (na, .inr (0, [.int (nI m), .int (nI b), .int (nI x), .int (zb fr)])), (sa, .inl (cI, 4096, .inl (zf (zd_rs rs x ls fr)))), (la, .inl (cI, 4096, .inl (zf (zd_rl rl x ll fr)))), (ia, .inl (cB, 16384, .inl f)), (x0, .inr (7, []))]) ∨
  ((c8 < zn_x x fr ∧ 16384 - made < (zd_len m c8 (zd_rl rl x ll fr))) ∧ ∃ x0 : Nat, o = .threw x0 ∧ w = [(a, .inr (2, [.ref na, .ref sa, .ref la, .ref ia, .int (nI made), .int (nI ls), .int (nI ll)])), (na, .inr (0, [.int (nI m), .int (nI b), .int (nI x), .int (zb fr)])), (sa, .inl (cI, 4096, .inl (zf (zd_rs rs x ls fr)))), (la, .inl (cI, 4096, .inl (zf (zd_rl rl x ll fr)))), (ia, .inl (cB, 16384, .inl f)), (x0, .inr (8, []))]) ∨
  ((c8 < zn_x x fr ∧ (zd_len m c8 (zd_rl rl x ll fr)) ≤ 16384 - made) ∧ o = .returned none ∧ w = [(a, .inr (2, [.ref na, .ref sa, .ref la, .ref ia, .int (nI (made + (zd_len m c8 (zd_rl rl x ll fr)))), .int (nI made), .int (nI (zd_len m c8 (zd_rl rl x ll fr)))])), (na, .inr (0, [.int (nI m), .int (nI (zn_b b x fr)), .int (nI (zn_x x fr)), .int 0])), (sa, .inl (cI, 4096, .inl (zf (zd_rs rs x ls fr)))), (la, .inl (cI, 4096, .inl (zf (zd_rl rl x ll fr)))), (ia, .inl (cB, 16384, .inl (zd_out m c8 f made (zd_rs rs x ls fr) (zd_rl rl x ll fr))))])
set_option maxHeartbeats 2000000 in
theorem k_UN_takeCode (l : Launch) (D : va_G) (cB cI cL : ClassId) (hl : l.stackTraces = false) (a na sa la ia m b x ls ll made c8 : Nat) (fr : Bool) (rs rl : Nat → Nat) (f : Nat → Int32) (hm : m ≤ 8) (hb : b < 16) (hx : x ≤ 4096) (hc : c8 < 4096) (hmd : made ≤ 16384) (hby : ∀ j, vp_nar .byte (f j) = f j) (hrow : c8 < zn_x x fr → 2 ^ m ≤ c8 → zd_rs rs x ls fr c8 ≤ made ∧ zd_rl rl x ll fr c8 ≤ 16385) : zx_K l zB D zcl (zt cB cI cL) y_UN_takeCode b_UN_takeCode 5 (none) [] 0 0 (zr 8 1 6) [.ref a, .int (nI c8)] [(a, .inr (2, [.ref na, .ref sa, .ref la, .ref ia, .int (nI made), .int (nI ls), .int (nI ll)])), (na, .inr (0, [.int (nI m), .int (nI b), .int (nI x), .int (zb fr)])), (sa, .inl (cI, 4096, .inl (zf rs))), (la, .inl (cI, 4096, .inl (zf rl))), (ia, .inl (cB, 16384, .inl f))] (zp_take a na sa la ia m b x ls ll made c8 fr rs rl f cB cI) := by
  refine zx_K.mk (Nat.le_of_ble_eq_true rfl) (fun p e s mm below meth c9 C hr hlk ht hnm => ?_)
  have hp8 := zp_pow8 hm
  have hzx : zn_x x fr ≤ 4097 := by unfold zn_x; split <;> omega
  have k136 : c8 < zn_x x fr → (zd_len m c8 (zd_rl rl x ll fr)) ≤ 16384 - made → zx_At p l e (zr 8 1 6) s mm (([.ref a, .int (nI c8)] : List Value)).toArray below meth c9 (zx_Q below s D zcl [(a, .inr (2, [.ref na, .ref sa, .ref la, .ref ia, .int (nI made), .int (nI ls), .int (nI ll)])), (na, .inr (0, [.int (nI m), .int (nI b), .int (nI x), .int (zb fr)])), (sa, .inl (cI, 4096, .inl (zf rs))), (la, .inl (cI, 4096, .inl (zf rl))), (ia, .inl (cB, 16384, .inl f))] 0 0 (zr 8 1 6) (zp_take a na sa la ia m b x ls ll made c8 fr rs rl f cB cI)) D zcl (va_A [(a, .inr (2, [.ref na, .ref sa, .ref la, .ref ia, .int (nI made), .int (nI ls), .int (nI ll)])), (na, .inr (0, [.int (nI m), .int (nI b), .int (nI x), .int (zb fr)])), (sa, .inl (cI, 4096, .inl (zf rs))), (la, .inl (cI, 4096, .inl (zf rl))), (ia, .inl (cB, 16384, .inl f))] s.heap.size) 5 [(0, .ref a), (1, .int (nI c8)), (2, .int (nI (zn_x x fr))), (3, .int (zb (decide (c8 < 2 ^ m)))), (4, .int (nI (zd_len m c8 (zd_rl rl x ll fr))))] [(a, .inr (2, [.ref na, .ref sa, .ref la, .ref ia, .int (nI made), .int (nI ls), .int (nI ll)])), (na, .inr (0, [.int (nI m), .int (nI b), .int (nI x), .int (zb fr)])), (sa, .inl (cI, 4096, .inl (zf (zd_rs rs x ls fr)))), (la, .inl (cI, 4096, .inl (zf (zd_rl rl x ll fr)))), (ia, .inl (cB, 16384, .inl (zd_out m c8 f made (zd_rs rs x ls fr) (zd_rl rl x ll fr))))] 0 0 136 [] := fun q1 q2 =>
    sg_UN_take136 C hb hx hr hlk (nI_add _ _) (Or.inr (Or.inr ⟨⟨q1, q2⟩, rfl, rfl⟩))
  have k83 : c8 < zn_x x fr → zx_At p l e (zr 8 1 6) s mm (([.ref a, .int (nI c8)] : List Value)).toArray below meth c9 (zx_Q below s D zcl [(a, .inr (2, [.ref na, .ref sa, .ref la, .ref ia, .int (nI made), .int (nI ls), .int (nI ll)])), (na, .inr (0, [.int (nI m), .int (nI b), .int (nI x), .int (zb fr)])), (sa, .inl (cI, 4096, .inl (zf rs))), (la, .inl (cI, 4096, .inl (zf rl))), (ia, .inl (cB, 16384, .inl f))] 0 0 (zr 8 1 6) (zp_take a na sa la ia m b x ls ll made c8 fr rs rl f cB cI)) D zcl (va_A [(a, .inr (2, [.ref na, .ref sa, .ref la, .ref ia, .int (nI made), .int (nI ls), .int (nI ll)])), (na, .inr (0, [.int (nI m), .int (nI b), .int (nI x), .int (zb fr)])), (sa, .inl (cI, 4096, .inl (zf rs))), (la, .inl (cI, 4096, .inl (zf rl))), (ia, .inl (cB, 16384, .inl f))] s.heap.size) 5 [(0, .ref a), (1, .int (nI c8)), (2, .int (nI (zn_x x fr))), (3, .int (zb (decide (c8 < 2 ^ m)))), (4, .int (nI (zd_len m c8 (zd_rl rl x ll fr))))] [(a, .inr (2, [.ref na, .ref sa, .ref la, .ref ia, .int (nI made), .int (nI ls), .int (nI ll)])), (na, .inr (0, [.int (nI m), .int (nI b), .int (nI x), .int (zb fr)])), (sa, .inl (cI, 4096, .inl (zf (zd_rs rs x ls fr)))), (la, .inl (cI, 4096, .inl (zf (zd_rl rl x ll fr)))), (ia, .inl (cB, 16384, .inl f))] 0 0 83 [] := fun q1 => by
    have hlen : (zd_len m c8 (zd_rl rl x ll fr)) ≤ 16385 := by
      unfold zd_len
      split
      · decide
      · exact (hrow q1 (by omega)).2
    have key : nI (zd_len m c8 (zd_rl rl x ll fr)) ≤ nI (16384 - made) ↔ (zd_len m c8 (zd_rl rl x ll fr)) ≤ 16384 - made := nI_leI (by omega) (by omega)
    refine sg_UN_take83 C hby (fun z1 z2 => ?_) hr hlk hl ht (pk_sub (a := 16384) (b := made) hmd) ?_ ?_ ?_ ?_ ?_ ?_ ?_
    · have q3 := zb_d.mp z2
      have q2 := key.mp z1
      exact ⟨by omega, (hrow q1 (by omega)).1⟩
    · exact fun _ _ => ⟨rfl, hc⟩
    · exact fun _ _ => rfl
    · intro z1 z2
      have q3 := zb_d.mp z2
      have h := k136 q1 (key.mp z1)
      rw [show zd_out m c8 f made (zd_rs rs x ls fr) (zd_rl rl x ll fr) = zcp f made ((zd_rs rs x ls fr) c8) (zd_len m c8 (zd_rl rl x ll fr)) by rw [zd_out, if_neg q3, zd_len, if_neg q3]] at h
      exact h
    · exact fun _ _ => rfl
    · intro z1 z2
      have q3 : c8 < 2 ^ m := by
        by_cases q : c8 < 2 ^ m
        · exact q
        · exact absurd (zb_d.mpr q) z2
      have q2 := key.mp z1
      rw [zd_len, if_pos q3] at q2
      exact ⟨rfl, by omega⟩
    · intro z1 z2
      have q3 : c8 < 2 ^ m := by
        by_cases q : c8 < 2 ^ m
        · exact q
        · exact absurd (zb_d.mpr q) z2
      have h := k136 q1 (key.mp z1)
      rw [show zd_out m c8 f made (zd_rs rs x ls fr) (zd_rl rl x ll fr) = upd f made (vp_nar .byte (zby c8)) by rw [zd_out, if_pos q3, zby_nar]] at h
      exact h
    · intro z x0
      exact Or.inr (Or.inl ⟨⟨q1, Nat.lt_of_not_le (fun y => z (key.mpr y))⟩, x0, rfl, rfl⟩)
  have k43 : zx_At p l e (zr 8 1 6) s mm (([.ref a, .int (nI c8)] : List Value)).toArray below meth c9 (zx_Q below s D zcl [(a, .inr (2, [.ref na, .ref sa, .ref la, .ref ia, .int (nI made), .int (nI ls), .int (nI ll)])), (na, .inr (0, [.int (nI m), .int (nI b), .int (nI x), .int (zb fr)])), (sa, .inl (cI, 4096, .inl (zf rs))), (la, .inl (cI, 4096, .inl (zf rl))), (ia, .inl (cB, 16384, .inl f))] 0 0 (zr 8 1 6) (zp_take a na sa la ia m b x ls ll made c8 fr rs rl f cB cI)) D zcl (va_A [(a, .inr (2, [.ref na, .ref sa, .ref la, .ref ia, .int (nI made), .int (nI ls), .int (nI ll)])), (na, .inr (0, [.int (nI m), .int (nI b), .int (nI x), .int (zb fr)])), (sa, .inl (cI, 4096, .inl (zf rs))), (la, .inl (cI, 4096, .inl (zf rl))), (ia, .inl (cB, 16384, .inl f))] s.heap.size) 5 [(0, .ref a), (1, .int (nI c8)), (2, .int (nI (zn_x x fr)))] [(a, .inr (2, [.ref na, .ref sa, .ref la, .ref ia, .int (nI made), .int (nI ls), .int (nI ll)])), (na, .inr (0, [.int (nI m), .int (nI b), .int (nI x), .int (zb fr)])), (sa, .inl (cI, 4096, .inl (zf (zd_rs rs x ls fr)))), (la, .inl (cI, 4096, .inl (zf (zd_rl rl x ll fr)))), (ia, .inl (cB, 16384, .inl f))] 0 0 43 [] := by
    have key : nI c8 < nI (zn_x x fr) ↔ c8 < zn_x x fr := nI_ltI (by omega) (by omega)
    refine sg_UN_take43 C (by omega) (by omega) hr hlk hl ht (fun _ _ => ⟨rfl, hc⟩) (fun _ _ => rfl) (fun z1 z2 => ?_) (fun z1 z2 => ?_) (fun z x0 => Or.inl ⟨Nat.le_of_not_lt (fun y => z (key.mpr y)), x0, rfl, rfl⟩)
    · have q3 := zb_d.mp z2
      have h := k83 (key.mp z1)
      rw [show (zd_len m c8 (zd_rl rl x ll fr)) = (zd_rl rl x ll fr) c8 from if_neg q3] at h
      exact h
    · have q3 : c8 < 2 ^ m := by
        by_cases q : c8 < 2 ^ m
        · exact q
        · exact absurd (zb_d.mpr q) z2
      have h := k83 (key.mp z1)
      rw [show (zd_len m c8 (zd_rl rl x ll fr)) = 1 from if_pos q3] at h
      exact h
  have hcond : ¬ zb (!fr && decide (x < 4096)) = 0 → fr = false ∧ x < 4096 := fun h => by
    cases hq : (!fr && decide (x < 4096)) with
    | false => rw [hq] at h; exact absurd rfl h
    | true =>
      simp only [Bool.and_eq_true, Bool.not_eq_true', decide_eq_true_eq] at hq
      exact hq
  refine sg_UN_take0 C (by omega) (fun z => ?_) (fun z => ⟨rfl, (hcond z).2⟩) (fun _ => nI_1 ll) (fun z => ⟨rfl, (hcond z).2⟩) (fun _ => nI_1 x) (fun z => ?_)
  · have n : ¬ (fr = false ∧ x < 4096) := fun q => by
      rw [q.1, decide_eq_true q.2] at z
      exact absurd z (by decide)
    rw [show zn_x x fr = x from if_neg n, show zd_rs rs x ls fr = rs from if_neg n, show zd_rl rl x ll fr = rl from if_neg n] at k43
    exact k43
  · have n := hcond z
    rw [show zn_x x fr = x + 1 from if_pos n, show zd_rs rs x ls fr = updN rs x ls from if_pos n, show zd_rl rl x ll fr = updN rl x (ll + 1) from if_pos n] at k43
    rw [zf_upd, zf_upd]
    exact k43
