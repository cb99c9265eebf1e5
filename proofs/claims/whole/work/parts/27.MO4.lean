set_option maxRecDepth 100000 in
set_option maxHeartbeats 4000000 in
theorem sg_MP_0 {p : Program} {l : Launch} {e : Env} {s : State} {mi : MethodId} {args : Array Value} {below : List Frame} {meth : Method} {co : Code} {D : va_G} {cB cI cL : ClassId} {Q : State → Prop} {A : Nat → Prop} (C : zx_C p s mi args co b_MO_pack2 10 R_MO zB D zcl (zt cB cI cL) A) {ma tp rp dp wp op bp lp ep kp tn rn m n8 : Nat} {fl dn wn ba bb bc cw cx cf : Int32} {rw ou : Nat → Int32} {kd : Nat → Nat} (hm : 2 ≤ m ∧ m ≤ 8) (hz : zS ou 0 0 0 0 0) (hc : 2 ^ m < 2 ^ (m + 1)) (hk : m + 1 ≤ 12) (hP : 0 + (m + 1) < 524288) (e12 : ((1 : Int32) <<< ((nI m) &&& 31)) = (nI (2 ^ m))) (k31 : ∀ f2 : Nat → Int32, ∀ n2 : Nat, ∀ v2 : Nat, ∀ w2 : Nat, (zS f2 n2 v2 w2 (0 + (2 ^ m) * 2 ^ 0) (0 + (m + 1)) ∧ w2 < 8) → zx_At p l e (zr 4 0 0) s mi args below meth co Q D zcl A 10 [(0, .ref ma), (1, .int (nI m)), (2, .int (nI n8)), (3, .int (nI (2 ^ m))), (4, .int (0 : Int32))] [(ma, .inr (5, [.int fl, .ref tp, .int (nI tn), .ref rp, .int (nI rn), .ref dp, .int dn, .ref wp, .int wn, .int ba, .ref op, .int (nI n2), .ref bp, .ref lp, .ref ep, .int (nI v2), .int (nI w2), .int (nI (m + 1)), .int (nI (2 ^ m + 2)), .int (zb true), .ref kp])), (wp, .inl (cB, 16384, .inl rw)), (op, .inl (cB, 65536, .inl f2)), (kp, .inl (cI, 1048576, .inl (zf kd)))] 0 0 31 []) : zx_At p l e (zr 4 0 0) s mi args below meth co Q D zcl A 10 [(0, .ref ma), (1, .int (nI m)), (2, .int (nI n8))] [(ma, .inr (5, [.int fl, .ref tp, .int (nI tn), .ref rp, .int (nI rn), .ref dp, .int dn, .ref wp, .int wn, .int ba, .ref op, .int (nI 0), .ref bp, .ref lp, .ref ep, .int bb, .int bc, .int cw, .int cx, .int cf, .ref kp])), (wp, .inl (cB, 16384, .inl rw)), (op, .inl (cB, 65536, .inl ou)), (kp, .inl (cI, 1048576, .inl (zf kd)))] 0 0 0 [] := by
  refine zx_aload_n (pc := 0) C d_MO_pack2_0 rfl 0 rfl ?_
  refine zx_iconst (pc := 1) C d_MO_pack2_1 (v := (0 : Int32)) (by decide) ?_
  refine zx_put (pc := 2) (ci := 5) (Cn := R_MO) (T := T_MO) (N := 21) (v := .int (0 : Int32)) (ty := .int) (ws' := [(ma, .inr (5, [.int fl, .ref tp, .int (nI tn), .ref rp, .int (nI rn), .ref dp, .int dn, .ref wp, .int wn, .int ba, .ref op, .int (nI 0), .ref bp, .ref lp, .ref ep, .int (0 : Int32), .int bc, .int cw, .int cx, .int cf, .ref kp])), (wp, .inl (cB, 16384, .inl rw)), (op, .inl (cB, 65536, .inl ou)), (kp, .inl (cI, 1048576, .inl (zf kd)))]) C zu_MO ty_MO tyk_MO nm_MO 0 rfl rfl 15 (by decide) zw_718 rfl rfl (by decide +kernel) rfl rfl (Nat.le_of_ble_eq_true rfl) rfl d_MO_pack2_2 ?_
  refine zx_aload_n (pc := 5) C d_MO_pack2_5 rfl 0 rfl ?_
  refine zx_iconst (pc := 6) C d_MO_pack2_6 (v := (0 : Int32)) (by decide) ?_
  refine zx_put (pc := 7) (ci := 5) (Cn := R_MO) (T := T_MO) (N := 21) (v := .int (0 : Int32)) (ty := .int) (ws' := [(ma, .inr (5, [.int fl, .ref tp, .int (nI tn), .ref rp, .int (nI rn), .ref dp, .int dn, .ref wp, .int wn, .int ba, .ref op, .int (nI 0), .ref bp, .ref lp, .ref ep, .int (0 : Int32), .int (0 : Int32), .int cw, .int cx, .int cf, .ref kp])), (wp, .inl (cB, 16384, .inl rw)), (op, .inl (cB, 65536, .inl ou)), (kp, .inl (cI, 1048576, .inl (zf kd)))]) C zu_MO ty_MO tyk_MO nm_MO 0 rfl rfl 16 (by decide) zw_719 rfl rfl (by decide +kernel) rfl rfl (Nat.le_of_ble_eq_true rfl) rfl d_MO_pack2_7 ?_
  refine zx_iconst (pc := 10) C d_MO_pack2_10 (v := (1 : Int32)) (by decide) ?_
  refine zx_iload_n (pc := 11) C d_MO_pack2_11 rfl 1 rfl ?_
  refine zx_ishl (pc := 12) C d_MO_pack2_12 ?_
  refine zx_seti (nI (2 ^ m)) (e12) ?_
  refine zx_istore_n (pc := 13) C d_MO_pack2_13 rfl (by decide) (lv' := [(3, .int (nI (2 ^ m))), (0, .ref ma), (1, .int (nI m)), (2, .int (nI n8))]) rfl ?_
  refine zx_aload_n (pc := 14) C d_MO_pack2_14 rfl 1 rfl ?_
  refine zx_iload_n (pc := 15) C d_MO_pack2_15 rfl 2 rfl ?_
  refine zx_callV (pc := 16) (ix := 103) (As := [.int (nI m)]) (b := ma) (q0 := 0) (wr := [(wp, .inl (cB, 16384, .inl rw)), (op, .inl (cB, 65536, .inl ou)), (kp, .inl (cI, 1048576, .inl (zf kd)))]) (st := []) C (zx_cw.of (C.w zw_826)) (by decide +kernel) ⟨by decide +kernel, by decide +kernel⟩ zw_825 zs_MO_begin zw_823 rfl rfl rfl rfl rfl (k_MO_begin l D cB cI cL (zr 0 0 0) ma tp rp dp wp op bp lp ep kp tn rn m fl dn wn ba (nI 0) (nI 0) (nI 0) cw cx cf hm.2) rfl [0] [1, 2, 3] rfl rfl (by decide) (by decide) (by decide) (Nat.le_of_ble_eq_true rfl) (Nat.le_of_ble_eq_true rfl) (Nat.le_of_ble_eq_true rfl) (Nat.le_of_ble_eq_true rfl) d_MO_pack2_16 (fun o w1 hp => ?_)
  obtain ⟨rfl, rfl⟩ := hp
  refine zx_rv (k2 := 0) (n2 := 0) rfl rfl ?_
  refine zx_ws (ws' := [(ma, .inr (5, [.int fl, .ref tp, .int (nI tn), .ref rp, .int (nI rn), .ref dp, .int dn, .ref wp, .int wn, .int ba, .ref op, .int (nI 0), .ref bp, .ref lp, .ref ep, .int (nI 0), .int (nI 0), .int (nI (m + 1)), .int (nI (2 ^ m + 2)), .int (zb true), .ref kp])), (wp, .inl (cB, 16384, .inl rw)), (op, .inl (cB, 65536, .inl ou)), (kp, .inl (cI, 1048576, .inl (zf kd)))]) [3, 0, 1, 2] (by decide) rfl ?_
  refine zx_aload_n (pc := 19) C d_MO_pack2_19 rfl 1 rfl ?_
  refine zx_iload_n (pc := 20) C d_MO_pack2_20 rfl 0 rfl ?_
  refine zx_aload_n (pc := 21) C d_MO_pack2_21 rfl 1 rfl ?_
  refine zx_get (pc := 22) (ci := 5) (Cn := R_MO) (T := T_MO) (N := 21) (v := .int (nI (m + 1))) C zu_MO 0 rfl rfl 17 (by decide) zw_720 rfl rfl d_MO_pack2_22 ?_
  refine zx_callV (pc := 25) (ix := 99) (As := [.int (nI (2 ^ m)), .int (nI (m + 1))]) (b := ma) (q0 := 0) (wr := [(wp, .inl (cB, 16384, .inl rw)), (kp, .inl (cI, 1048576, .inl (zf kd)))]) (st := []) C (zx_cw.of (C.w zw_830)) (by decide +kernel) ⟨by decide +kernel, by decide +kernel⟩ zw_829 zs_MO_putBits zw_827 rfl rfl rfl rfl rfl (k_MO_putBits l D cB cI cL ma tp rp dp wp op bp lp ep kp tn rn 0 0 0 (2 ^ m) (m + 1) 0 0 fl dn wn ba (nI (m + 1)) (nI (2 ^ m + 2)) (zb true) ou hz (by decide) hc hk hP) rfl [0, 2] [1, 3] rfl rfl (by decide) (by decide) (by decide) (Nat.le_of_ble_eq_true rfl) (Nat.le_of_ble_eq_true rfl) (Nat.le_of_ble_eq_true rfl) (Nat.le_of_ble_eq_true rfl) d_MO_pack2_25 (fun o w1 hp => ?_)
  obtain ⟨f2, n2, v2, w2, hc25, rfl, rfl⟩ := hp
  refine zx_rv (k2 := 0) (n2 := 0) rfl rfl ?_
  refine zx_ws (ws' := [(ma, .inr (5, [.int fl, .ref tp, .int (nI tn), .ref rp, .int (nI rn), .ref dp, .int dn, .ref wp, .int wn, .int ba, .ref op, .int (nI n2), .ref bp, .ref lp, .ref ep, .int (nI v2), .int (nI w2), .int (nI (m + 1)), .int (nI (2 ^ m + 2)), .int (zb true), .ref kp])), (wp, .inl (cB, 16384, .inl rw)), (op, .inl (cB, 65536, .inl f2)), (kp, .inl (cI, 1048576, .inl (zf kd)))]) [2, 0, 3, 1] (by decide) rfl ?_
  refine zx_iconst (pc := 28) C d_MO_pack2_28 (v := (0 : Int32)) (by decide) ?_
  refine zx_istore (pc := 29) C d_MO_pack2_29 (by decide) (lv' := [(4, .int (0 : Int32)), (3, .int (nI (2 ^ m))), (0, .ref ma), (1, .int (nI m)), (2, .int (nI n8))]) rfl ?_
  refine zx_lv (lv' := [(0, .ref ma), (1, .int (nI m)), (2, .int (nI n8)), (3, .int (nI (2 ^ m))), (4, .int (0 : Int32))]) [2, 3, 4, 1, 0] rfl ?_
  exact k31 f2 n2 v2 w2 hc25

set_option maxRecDepth 100000 in
set_option maxHeartbeats 4000000 in
theorem sg_MP_31 {p : Program} {l : Launch} {e : Env} {R : Room} {s : State} {mi : MethodId} {args : Array Value} {below : List Frame} {meth : Method} {co : Code} {D : va_G} {cB cI cL : ClassId} {Q : State → Prop} {A : Nat → Prop} (C : zx_C p s mi args co b_MO_pack2 10 R_MO zB D zcl (zt cB cI cL) A) {ma tp rp dp wp op bp lp ep kp tn rn : Nat} {fl dn wn ba on bb bc cw cx cf : Int32} {m n8 k : Nat} {rw ou : Nat → Int32} {kd : Nat → Nat} (k52 : ((1048576 : Int32) ≤ (nI k)) → zx_At p l e R s mi args below meth co Q D zcl A 10 [(0, .ref ma), (1, .int (nI m)), (2, .int (nI n8)), (3, .int (nI (2 ^ m)))] [(ma, .inr (5, [.int fl, .ref tp, .int (nI tn), .ref rp, .int (nI rn), .ref dp, .int dn, .ref wp, .int wn, .int ba, .ref op, .int on, .ref bp, .ref lp, .ref ep, .int bb, .int bc, .int cw, .int cx, .int cf, .ref kp])), (wp, .inl (cB, 16384, .inl rw)), (op, .inl (cB, 65536, .inl ou)), (kp, .inl (cI, 1048576, .inl (zf kd)))] 0 0 52 []) (b45 : (¬ (1048576 : Int32) ≤ (nI k)) → (nI k) = nI k ∧ k < 1048576) (e46 : (¬ (1048576 : Int32) ≤ (nI k)) → (nI k) + (1 : Int32) = (nI (k + 1))) (k31 : (¬ (1048576 : Int32) ≤ (nI k)) → zx_At p l e R s mi args below meth co Q D zcl A 10 [(0, .ref ma), (1, .int (nI m)), (2, .int (nI n8)), (3, .int (nI (2 ^ m))), (4, .int (nI (k + 1)))] [(ma, .inr (5, [.int fl, .ref tp, .int (nI tn), .ref rp, .int (nI rn), .ref dp, .int dn, .ref wp, .int wn, .int ba, .ref op, .int on, .ref bp, .ref lp, .ref ep, .int bb, .int bc, .int cw, .int cx, .int cf, .ref kp])), (wp, .inl (cB, 16384, .inl rw)), (op, .inl (cB, 65536, .inl ou)), (kp, .inl (cI, 1048576, .inl (upd (zf kd) k (0 : Int32))))] 0 0 31 []) : zx_At p l e R s mi args below meth co Q D zcl A 10 [(0, .ref ma), (1, .int (nI m)), (2, .int (nI n8)), (3, .int (nI (2 ^ m))), (4, .int (nI k))] [(ma, .inr (5, [.int fl, .ref tp, .int (nI tn), .ref rp, .int (nI rn), .ref dp, .int dn, .ref wp, .int wn, .int ba, .ref op, .int on, .ref bp, .ref lp, .ref ep, .int bb, .int bc, .int cw, .int cx, .int cf, .ref kp])), (wp, .inl (cB, 16384, .inl rw)), (op, .inl (cB, 65536, .inl ou)), (kp, .inl (cI, 1048576, .inl (zf kd)))] 0 0 31 [] := by
  refine zx_iload (pc := 31) C d_MO_pack2_31 4 rfl ?_
  refine zx_ldc (pc := 33) C zw_702 d_MO_pack2_33 ?_
  refine zx_icmp_ge (pc := 35) C 52 d_MO_pack2_35 (by decide) (fun c35 => ?_) (fun c35 => ?_)
  · refine zx_lv (lv' := [(0, .ref ma), (1, .int (nI m)), (2, .int (nI n8)), (3, .int (nI (2 ^ m)))]) [0, 1, 2, 3] rfl ?_
    exact k52 c35
  · refine zx_aload_n (pc := 38) C d_MO_pack2_38 rfl 0 rfl ?_
    refine zx_get (pc := 39) (ci := 5) (Cn := R_MO) (T := T_MO) (N := 21) (v := .ref kp) C zu_MO 0 rfl rfl 20 (by decide) zw_723 rfl rfl d_MO_pack2_39 ?_
    refine zx_iload (pc := 42) C d_MO_pack2_42 4 rfl ?_
    refine zx_iconst (pc := 44) C d_MO_pack2_44 (v := (0 : Int32)) (by decide) ?_
    refine zx_iast (pc := 45) (ws' := [(ma, .inr (5, [.int fl, .ref tp, .int (nI tn), .ref rp, .int (nI rn), .ref dp, .int dn, .ref wp, .int wn, .int ba, .ref op, .int on, .ref bp, .ref lp, .ref ep, .int bb, .int bc, .int cw, .int cx, .int cf, .ref kp])), (wp, .inl (cB, 16384, .inl rw)), (op, .inl (cB, 65536, .inl ou)), (kp, .inl (cI, 1048576, .inl (upd (zf kd) k (0 : Int32))))]) C 3 1 rfl rfl k (b45 c35).1 (b45 c35).2 (by decide) rfl d_MO_pack2_45 ?_
    refine zx_iinc (pc := 46) C d_MO_pack2_46 4 rfl (v := (nI (k + 1))) (e46 c35) (by decide) (lv' := [(4, .int (nI (k + 1))), (0, .ref ma), (1, .int (nI m)), (2, .int (nI n8)), (3, .int (nI (2 ^ m)))]) rfl ?_
    refine zx_goto (pc := 49) C 31 d_MO_pack2_49 (by decide) ?_
    refine zx_lv (lv' := [(0, .ref ma), (1, .int (nI m)), (2, .int (nI n8)), (3, .int (nI (2 ^ m))), (4, .int (nI (k + 1)))]) [1, 2, 3, 4, 0] rfl ?_
    exact k31 c35

set_option maxRecDepth 100000 in
set_option maxHeartbeats 4000000 in
theorem sg_MP_158 {p : Program} {l : Launch} {e : Env} {R : Room} {s : State} {mi : MethodId} {args : Array Value} {below : List Frame} {meth : Method} {co : Code} {D : va_G} {cB cI cL : ClassId} {Q : State → Prop} {A : Nat → Prop} (C : zx_C p s mi args co b_MO_pack2 10 R_MO zB D zcl (zt cB cI cL) A) {ma tp rp dp wp op bp lp ep kp tn rn : Nat} {fl dn wn ba on bb bc cw cx cf : Int32} {m n8 k i ix : Nat} {rw ou : Nat → Int32} {kd : Nat → Nat} (e181 : ((1048576 : Int32) ≤ (nI k)) → ((nI (2 ^ m)) + (2 : Int32)) = (nI (2 ^ m + 2))) (k224 : ((1048576 : Int32) ≤ (nI k)) → zx_At p l e R s mi args below meth co Q D zcl A 10 [(0, .ref ma), (1, .int (nI m)), (2, .int (nI n8)), (3, .int (nI (2 ^ m))), (4, .int (nI (2 ^ m + 2))), (6, .int (0 : Int32)), (7, .int (nI i)), (8, .int (nI ix))] [(ma, .inr (5, [.int fl, .ref tp, .int (nI tn), .ref rp, .int (nI rn), .ref dp, .int dn, .ref wp, .int wn, .int ba, .ref op, .int on, .ref bp, .ref lp, .ref ep, .int bb, .int bc, .int cw, .int cx, .int cf, .ref kp])), (wp, .inl (cB, 16384, .inl rw)), (op, .inl (cB, 65536, .inl ou)), (kp, .inl (cI, 1048576, .inl (zf kd)))] 0 0 224 []) (b172 : (¬ (1048576 : Int32) ≤ (nI k)) → (nI k) = nI k ∧ k < 1048576) (e173 : (¬ (1048576 : Int32) ≤ (nI k)) → (nI k) + (1 : Int32) = (nI (k + 1))) (k158 : (¬ (1048576 : Int32) ≤ (nI k)) → zx_At p l e R s mi args below meth co Q D zcl A 10 [(0, .ref ma), (1, .int (nI m)), (2, .int (nI n8)), (3, .int (nI (2 ^ m))), (7, .int (nI i)), (8, .int (nI ix)), (9, .int (nI (k + 1)))] [(ma, .inr (5, [.int fl, .ref tp, .int (nI tn), .ref rp, .int (nI rn), .ref dp, .int dn, .ref wp, .int wn, .int ba, .ref op, .int on, .ref bp, .ref lp, .ref ep, .int bb, .int bc, .int cw, .int cx, .int cf, .ref kp])), (wp, .inl (cB, 16384, .inl rw)), (op, .inl (cB, 65536, .inl ou)), (kp, .inl (cI, 1048576, .inl (upd (zf kd) k (0 : Int32))))] 0 0 158 []) : zx_At p l e R s mi args below meth co Q D zcl A 10 [(0, .ref ma), (1, .int (nI m)), (2, .int (nI n8)), (3, .int (nI (2 ^ m))), (7, .int (nI i)), (8, .int (nI ix)), (9, .int (nI k))] [(ma, .inr (5, [.int fl, .ref tp, .int (nI tn), .ref rp, .int (nI rn), .ref dp, .int dn, .ref wp, .int wn, .int ba, .ref op, .int on, .ref bp, .ref lp, .ref ep, .int bb, .int bc, .int cw, .int cx, .int cf, .ref kp])), (wp, .inl (cB, 16384, .inl rw)), (op, .inl (cB, 65536, .inl ou)), (kp, .inl (cI, 1048576, .inl (zf kd)))] 0 0 158 [] := by
  refine zx_iload (pc := 158) C d_MO_pack2_158 6 rfl ?_
  refine zx_ldc (pc := 160) C zw_702 d_MO_pack2_160 ?_
  refine zx_icmp_ge (pc := 162) C 179 d_MO_pack2_162 (by decide) (fun c162 => ?_) (fun c162 => ?_)
  · refine zx_iload_n (pc := 179) C d_MO_pack2_179 rfl 3 rfl ?_
    refine zx_iconst (pc := 180) C d_MO_pack2_180 (v := (2 : Int32)) (by decide) ?_
    refine zx_iadd (pc := 181) C d_MO_pack2_181 ?_
    refine zx_seti (nI (2 ^ m + 2)) (e181 c162) ?_
    refine zx_istore (pc := 182) C d_MO_pack2_182 (by decide) (lv' := [(4, .int (nI (2 ^ m + 2))), (0, .ref ma), (1, .int (nI m)), (2, .int (nI n8)), (3, .int (nI (2 ^ m))), (7, .int (nI i)), (8, .int (nI ix)), (9, .int (nI k))]) rfl ?_
    refine zx_iconst (pc := 184) C d_MO_pack2_184 (v := (0 : Int32)) (by decide) ?_
    refine zx_istore (pc := 185) C d_MO_pack2_185 (by decide) (lv' := [(6, .int (0 : Int32)), (4, .int (nI (2 ^ m + 2))), (0, .ref ma), (1, .int (nI m)), (2, .int (nI n8)), (3, .int (nI (2 ^ m))), (7, .int (nI i)), (8, .int (nI ix)), (9, .int (nI k))]) rfl ?_
    refine zx_goto (pc := 187) C 224 d_MO_pack2_187 (by decide) ?_
    refine zx_lv (lv' := [(0, .ref ma), (1, .int (nI m)), (2, .int (nI n8)), (3, .int (nI (2 ^ m))), (4, .int (nI (2 ^ m + 2))), (6, .int (0 : Int32)), (7, .int (nI i)), (8, .int (nI ix))]) [2, 3, 4, 5, 1, 0, 6, 7] rfl ?_
    exact k224 c162
  · refine zx_aload_n (pc := 165) C d_MO_pack2_165 rfl 0 rfl ?_
    refine zx_get (pc := 166) (ci := 5) (Cn := R_MO) (T := T_MO) (N := 21) (v := .ref kp) C zu_MO 0 rfl rfl 20 (by decide) zw_723 rfl rfl d_MO_pack2_166 ?_
    refine zx_iload (pc := 169) C d_MO_pack2_169 6 rfl ?_
    refine zx_iconst (pc := 171) C d_MO_pack2_171 (v := (0 : Int32)) (by decide) ?_
    refine zx_iast (pc := 172) (ws' := [(ma, .inr (5, [.int fl, .ref tp, .int (nI tn), .ref rp, .int (nI rn), .ref dp, .int dn, .ref wp, .int wn, .int ba, .ref op, .int on, .ref bp, .ref lp, .ref ep, .int bb, .int bc, .int cw, .int cx, .int cf, .ref kp])), (wp, .inl (cB, 16384, .inl rw)), (op, .inl (cB, 65536, .inl ou)), (kp, .inl (cI, 1048576, .inl (upd (zf kd) k (0 : Int32))))]) C 3 1 rfl rfl k (b172 c162).1 (b172 c162).2 (by decide) rfl d_MO_pack2_172 ?_
    refine zx_iinc (pc := 173) C d_MO_pack2_173 6 rfl (v := (nI (k + 1))) (e173 c162) (by decide) (lv' := [(9, .int (nI (k + 1))), (0, .ref ma), (1, .int (nI m)), (2, .int (nI n8)), (3, .int (nI (2 ^ m))), (7, .int (nI i)), (8, .int (nI ix))]) rfl ?_
    refine zx_goto (pc := 176) C 158 d_MO_pack2_176 (by decide) ?_
    refine zx_lv (lv' := [(0, .ref ma), (1, .int (nI m)), (2, .int (nI n8)), (3, .int (nI (2 ^ m))), (7, .int (nI i)), (8, .int (nI ix)), (9, .int (nI (k + 1)))]) [1, 2, 3, 4, 5, 6, 0] rfl ?_
    exact k158 c162

set_option maxRecDepth 100000 in
set_option maxHeartbeats 4000000 in
theorem sg_MP_52 {p : Program} {l : Launch} {e : Env} {R : Room} {s : State} {mi : MethodId} {args : Array Value} {below : List Frame} {meth : Method} {co : Code} {D : va_G} {cB cI cL : ClassId} {Q : State → Prop} {A : Nat → Prop} (C : zx_C p s mi args co b_MO_pack2 10 R_MO zB D zcl (zt cB cI cL) A) {ma tp rp dp wp op bp lp ep kp tn rn : Nat} {fl dn wn ba on bb bc cw cx cf : Int32} {m n8 : Nat} {rw ou : Nat → Int32} {kd : Nat → Nat} (e54 : ((nI (2 ^ m)) + (2 : Int32)) = (nI (2 ^ m + 2))) (b62 : (0 : Int32) = nI 0 ∧ 0 < 16384) (e66 : ((rw 0) &&& (255 : Int32)) = (nI (zu (rw 0)))) (k75 : zx_At p l e R s mi args below meth co Q D zcl A 10 [(0, .ref ma), (1, .int (nI m)), (2, .int (nI n8)), (3, .int (nI (2 ^ m))), (4, .int (nI (2 ^ m + 2))), (5, .int (nI (zu (rw 0)))), (6, .int (0 : Int32)), (7, .int (1 : Int32))] [(ma, .inr (5, [.int fl, .ref tp, .int (nI tn), .ref rp, .int (nI rn), .ref dp, .int dn, .ref wp, .int wn, .int ba, .ref op, .int on, .ref bp, .ref lp, .ref ep, .int bb, .int bc, .int cw, .int cx, .int cf, .ref kp])), (wp, .inl (cB, 16384, .inl rw)), (op, .inl (cB, 65536, .inl ou)), (kp, .inl (cI, 1048576, .inl (zf kd)))] 0 0 75 []) : zx_At p l e R s mi args below meth co Q D zcl A 10 [(0, .ref ma), (1, .int (nI m)), (2, .int (nI n8)), (3, .int (nI (2 ^ m)))] [(ma, .inr (5, [.int fl, .ref tp, .int (nI tn), .ref rp, .int (nI rn), .ref dp, .int dn, .ref wp, .int wn, .int ba, .ref op, .int on, .ref bp, .ref lp, .ref ep, .int bb, .int bc, .int cw, .int cx, .int cf, .ref kp])), (wp, .inl (cB, 16384, .inl rw)), (op, .inl (cB, 65536, .inl ou)), (kp, .inl (cI, 1048576, .inl (zf kd)))] 0 0 52 [] := by
  refine zx_iload_n (pc := 52) C d_MO_pack2_52 rfl 3 rfl ?_
  refine zx_iconst (pc := 53) C d_MO_pack2_53 (v := (2 : Int32)) (by decide) ?_
  refine zx_iadd (pc := 54) C d_MO_pack2_54 ?_
  refine zx_seti (nI (2 ^ m + 2)) (e54) ?_
  refine zx_istore (pc := 55) C d_MO_pack2_55 (by decide) (lv' := [(4, .int (nI (2 ^ m + 2))), (0, .ref ma), (1, .int (nI m)), (2, .int (nI n8)), (3, .int (nI (2 ^ m)))]) rfl ?_
  refine zx_aload_n (pc := 57) C d_MO_pack2_57 rfl 1 rfl ?_
  refine zx_get (pc := 58) (ci := 5) (Cn := R_MO) (T := T_MO) (N := 21) (v := .ref wp) C zu_MO 0 rfl rfl 7 (by decide) zw_710 rfl rfl d_MO_pack2_58 ?_
  refine zx_iconst (pc := 61) C d_MO_pack2_61 (v := (0 : Int32)) (by decide) ?_
  refine zx_bald (pc := 62) C 1 0 rfl rfl 0 (b62).1 (b62).2 (by decide) d_MO_pack2_62 ?_
  refine zx_sipush (pc := 63) C d_MO_pack2_63 (v := (255 : Int32)) (by decide) ?_
  refine zx_iand (pc := 66) C d_MO_pack2_66 ?_
  refine zx_seti (nI (zu (rw 0))) (e66) ?_
  refine zx_istore (pc := 67) C d_MO_pack2_67 (by decide) (lv' := [(5, .int (nI (zu (rw 0)))), (4, .int (nI (2 ^ m + 2))), (0, .ref ma), (1, .int (nI m)), (2, .int (nI n8)), (3, .int (nI (2 ^ m)))]) rfl ?_
  refine zx_iconst (pc := 69) C d_MO_pack2_69 (v := (0 : Int32)) (by decide) ?_
  refine zx_istore (pc := 70) C d_MO_pack2_70 (by decide) (lv' := [(6, .int (0 : Int32)), (5, .int (nI (zu (rw 0)))), (4, .int (nI (2 ^ m + 2))), (0, .ref ma), (1, .int (nI m)), (2, .int (nI n8)), (3, .int (nI (2 ^ m)))]) rfl ?_
  refine zx_iconst (pc := 72) C d_MO_pack2_72 (v := (1 : Int32)) (by decide) ?_
  refine zx_istore (pc := 73) C d_MO_pack2_73 (by decide) (lv' := [(7, .int (1 : Int32)), (6, .int (0 : Int32)), (5, .int (nI (zu (rw 0)))), (4, .int (nI (2 ^ m + 2))), (0, .ref ma), (1, .int (nI m)), (2, .int (nI n8)), (3, .int (nI (2 ^ m)))]) rfl ?_
  refine zx_lv (lv' := [(0, .ref ma), (1, .int (nI m)), (2, .int (nI n8)), (3, .int (nI (2 ^ m))), (4, .int (nI (2 ^ m + 2))), (5, .int (nI (zu (rw 0)))), (6, .int (0 : Int32)), (7, .int (1 : Int32))]) [4, 5, 6, 7, 3, 2, 1, 0] rfl ?_
  exact k75

set_option maxRecDepth 100000 in
set_option maxHeartbeats 4000000 in
theorem sg_MP_75 {p : Program} {l : Launch} {e : Env} {R : Room} {s : State} {mi : MethodId} {args : Array Value} {below : List Frame} {meth : Method} {co : Code} {D : va_G} {cB cI cL : ClassId} {Q : State → Prop} {A : Nat → Prop} (C : zx_C p s mi args co b_MO_pack2 10 R_MO zB D zcl (zt cB cI cL) A) {ma tp rp dp wp op bp lp ep kp tn rn : Nat} {fl dn wn ba on bb bc cw cx cf : Int32} {m n8 fs r i : Nat} {fu : Bool} {rw ou : Nat → Int32} {kd : Nat → Nat} (k234 : ((nI n8) ≤ (nI i)) → zx_At p l e R s mi args below meth co Q D zcl A 10 [(0, .ref ma), (1, .int (nI m)), (2, .int (nI n8)), (3, .int (nI (2 ^ m))), (5, .int (nI r)), (6, .int (zb fu))] [(ma, .inr (5, [.int fl, .ref tp, .int (nI tn), .ref rp, .int (nI rn), .ref dp, .int dn, .ref wp, .int wn, .int ba, .ref op, .int on, .ref bp, .ref lp, .ref ep, .int bb, .int bc, .int cw, .int cx, .int cf, .ref kp])), (wp, .inl (cB, 16384, .inl rw)), (op, .inl (cB, 65536, .inl ou)), (kp, .inl (cI, 1048576, .inl (zf kd)))] 0 0 234 []) (b87 : (¬ (nI n8) ≤ (nI i)) → (nI i) = nI i ∧ i < 16384) (e91 : (¬ (nI n8) ≤ (nI i)) → ((rw i) &&& (255 : Int32)) = (nI (zu (rw i)))) (e103 : (¬ (nI n8) ≤ (nI i)) → ((256 : Int32) * (nI r)) = (nI (256 * r))) (e106 : (¬ (nI n8) ≤ (nI i)) → ((nI (256 * r)) + (nI (zu (rw i)))) = (nI (256 * r + zu (rw i)))) (b107 : (¬ (nI n8) ≤ (nI i)) → (nI (256 * r + zu (rw i))) = nI (256 * r + zu (rw i)) ∧ (256 * r + zu (rw i)) < 1048576) (e107 : (¬ (nI n8) ≤ (nI i)) → ((zf kd) (256 * r + zu (rw i))) = (nI (kd (256 * r + zu (rw i))))) (k130 : (¬ (nI n8) ≤ (nI i)) → ((nI (kd (256 * r + zu (rw i)))) = 0) → zx_At p l e R s mi args below meth co Q D zcl A 10 [(0, .ref ma), (1, .int (nI m)), (2, .int (nI n8)), (3, .int (nI (2 ^ m))), (4, .int (nI fs)), (5, .int (nI r)), (6, .int (zb fu)), (7, .int (nI i)), (8, .int (nI (zu (rw i))))] [(ma, .inr (5, [.int fl, .ref tp, .int (nI tn), .ref rp, .int (nI rn), .ref dp, .int dn, .ref wp, .int wn, .int ba, .ref op, .int on, .ref bp, .ref lp, .ref ep, .int bb, .int bc, .int cw, .int cx, .int cf, .ref kp])), (wp, .inl (cB, 16384, .inl rw)), (op, .inl (cB, 65536, .inl ou)), (kp, .inl (cI, 1048576, .inl (zf kd)))] 0 0 130 []) (e120 : (¬ (nI n8) ≤ (nI i)) → (¬ (nI (kd (256 * r + zu (rw i)))) = 0) → ((256 : Int32) * (nI r)) = (nI (256 * r))) (e123 : (¬ (nI n8) ≤ (nI i)) → (¬ (nI (kd (256 * r + zu (rw i)))) = 0) → ((nI (256 * r)) + (nI (zu (rw i)))) = (nI (256 * r + zu (rw i)))) (b124 : (¬ (nI n8) ≤ (nI i)) → (¬ (nI (kd (256 * r + zu (rw i)))) = 0) → (nI (256 * r + zu (rw i))) = nI (256 * r + zu (rw i)) ∧ (256 * r + zu (rw i)) < 1048576) (e124 : (¬ (nI n8) ≤ (nI i)) → (¬ (nI (kd (256 * r + zu (rw i)))) = 0) → ((zf kd) (256 * r + zu (rw i))) = (nI (kd (256 * r + zu (rw i))))) (e228 : (¬ (nI n8) ≤ (nI i)) → (¬ (nI (kd (256 * r + zu (rw i)))) = 0) → (nI i) + (1 : Int32) = (nI (i + 1))) (k75 : (¬ (nI n8) ≤ (nI i)) → (¬ (nI (kd (256 * r + zu (rw i)))) = 0) → zx_At p l e R s mi args below meth co Q D zcl A 10 [(0, .ref ma), (1, .int (nI m)), (2, .int (nI n8)), (3, .int (nI (2 ^ m))), (4, .int (nI fs)), (5, .int (nI (kd (256 * r + zu (rw i))))), (6, .int (zb fu)), (7, .int (nI (i + 1)))] [(ma, .inr (5, [.int fl, .ref tp, .int (nI tn), .ref rp, .int (nI rn), .ref dp, .int dn, .ref wp, .int wn, .int ba, .ref op, .int on, .ref bp, .ref lp, .ref ep, .int bb, .int bc, .int cw, .int cx, .int cf, .ref kp])), (wp, .inl (cB, 16384, .inl rw)), (op, .inl (cB, 65536, .inl ou)), (kp, .inl (cI, 1048576, .inl (zf kd)))] 0 0 75 []) : zx_At p l e R s mi args below meth co Q D zcl A 10 [(0, .ref ma), (1, .int (nI m)), (2, .int (nI n8)), (3, .int (nI (2 ^ m))), (4, .int (nI fs)), (5, .int (nI r)), (6, .int (zb fu)), (7, .int (nI i))] [(ma, .inr (5, [.int fl, .ref tp, .int (nI tn), .ref rp, .int (nI rn), .ref dp, .int dn, .ref wp, .int wn, .int ba, .ref op, .int on, .ref bp, .ref lp, .ref ep, .int bb, .int bc, .int cw, .int cx, .int cf, .ref kp])), (wp, .inl (cB, 16384, .inl rw)), (op, .inl (cB, 65536, .inl ou)), (kp, .inl (cI, 1048576, .inl (zf kd)))] 0 0 75 [] := by
  refine zx_iload (pc := 75) C d_MO_pack2_75 7 rfl ?_
  refine zx_iload_n (pc := 77) C d_MO_pack2_77 rfl 2 rfl ?_
  refine zx_icmp_ge (pc := 78) C 234 d_MO_pack2_78 (by decide) (fun c78 => ?_) (fun c78 => ?_)
  · refine zx_lv (lv' := [(0, .ref ma), (1, .int (nI m)), (2, .int (nI n8)), (3, .int (nI (2 ^ m))), (5, .int (nI r)), (6, .int (zb fu))]) [0, 1, 2, 3, 5, 6] rfl ?_
    exact k234 c78
  · refine zx_aload_n (pc := 81) C d_MO_pack2_81 rfl 0 rfl ?_
    refine zx_get (pc := 82) (ci := 5) (Cn := R_MO) (T := T_MO) (N := 21) (v := .ref wp) C zu_MO 0 rfl rfl 7 (by decide) zw_710 rfl rfl d_MO_pack2_82 ?_
    refine zx_iload (pc := 85) C d_MO_pack2_85 7 rfl ?_
    refine zx_bald (pc := 87) C 1 0 rfl rfl i (b87 c78).1 (b87 c78).2 (by decide) d_MO_pack2_87 ?_
    refine zx_sipush (pc := 88) C d_MO_pack2_88 (v := (255 : Int32)) (by decide) ?_
    refine zx_iand (pc := 91) C d_MO_pack2_91 ?_
    refine zx_seti (nI (zu (rw i))) (e91 c78) ?_
    refine zx_istore (pc := 92) C d_MO_pack2_92 (by decide) (lv' := [(8, .int (nI (zu (rw i)))), (0, .ref ma), (1, .int (nI m)), (2, .int (nI n8)), (3, .int (nI (2 ^ m))), (4, .int (nI fs)), (5, .int (nI r)), (6, .int (zb fu)), (7, .int (nI i))]) rfl ?_
    refine zx_aload_n (pc := 94) C d_MO_pack2_94 rfl 1 rfl ?_
    refine zx_get (pc := 95) (ci := 5) (Cn := R_MO) (T := T_MO) (N := 21) (v := .ref kp) C zu_MO 0 rfl rfl 20 (by decide) zw_723 rfl rfl d_MO_pack2_95 ?_
    refine zx_sipush (pc := 98) C d_MO_pack2_98 (v := (256 : Int32)) (by decide) ?_
    refine zx_iload (pc := 101) C d_MO_pack2_101 6 rfl ?_
    refine zx_imul (pc := 103) C d_MO_pack2_103 ?_
    refine zx_seti (nI (256 * r)) (e103 c78) ?_
    refine zx_iload (pc := 104) C d_MO_pack2_104 0 rfl ?_
    refine zx_iadd (pc := 106) C d_MO_pack2_106 ?_
    refine zx_seti (nI (256 * r + zu (rw i))) (e106 c78) ?_
    refine zx_iald (pc := 107) C 3 1 rfl rfl (256 * r + zu (rw i)) (b107 c78).1 (b107 c78).2 (by decide) d_MO_pack2_107 ?_
    refine zx_seti (nI (kd (256 * r + zu (rw i)))) (e107 c78) ?_
    refine zx_if_eq (pc := 108) C 130 d_MO_pack2_108 (by decide) (fun c108 => ?_) (fun c108 => ?_)
    · refine zx_lv (lv' := [(0, .ref ma), (1, .int (nI m)), (2, .int (nI n8)), (3, .int (nI (2 ^ m))), (4, .int (nI fs)), (5, .int (nI r)), (6, .int (zb fu)), (7, .int (nI i)), (8, .int (nI (zu (rw i))))]) [1, 2, 3, 4, 5, 6, 7, 8, 0] rfl ?_
      exact k130 c78 c108
    · refine zx_aload_n (pc := 111) C d_MO_pack2_111 rfl 1 rfl ?_
      refine zx_get (pc := 112) (ci := 5) (Cn := R_MO) (T := T_MO) (N := 21) (v := .ref kp) C zu_MO 0 rfl rfl 20 (by decide) zw_723 rfl rfl d_MO_pack2_112 ?_
      refine zx_sipush (pc := 115) C d_MO_pack2_115 (v := (256 : Int32)) (by decide) ?_
      refine zx_iload (pc := 118) C d_MO_pack2_118 6 rfl ?_
      refine zx_imul (pc := 120) C d_MO_pack2_120 ?_
      refine zx_seti (nI (256 * r)) (e120 c78 c108) ?_
      refine zx_iload (pc := 121) C d_MO_pack2_121 0 rfl ?_
      refine zx_iadd (pc := 123) C d_MO_pack2_123 ?_
      refine zx_seti (nI (256 * r + zu (rw i))) (e123 c78 c108) ?_
      refine zx_iald (pc := 124) C 3 1 rfl rfl (256 * r + zu (rw i)) (b124 c78 c108).1 (b124 c78 c108).2 (by decide) d_MO_pack2_124 ?_
      refine zx_seti (nI (kd (256 * r + zu (rw i)))) (e124 c78 c108) ?_
      refine zx_istore (pc := 125) C d_MO_pack2_125 (by decide) (lv' := [(5, .int (nI (kd (256 * r + zu (rw i))))), (8, .int (nI (zu (rw i)))), (0, .ref ma), (1, .int (nI m)), (2, .int (nI n8)), (3, .int (nI (2 ^ m))), (4, .int (nI fs)), (6, .int (zb fu)), (7, .int (nI i))]) rfl ?_
      refine zx_goto (pc := 127) C 228 d_MO_pack2_127 (by decide) ?_
      refine zx_iinc (pc := 228) C d_MO_pack2_228 8 rfl (v := (nI (i + 1))) (e228 c78 c108) (by decide) (lv' := [(7, .int (nI (i + 1))), (5, .int (nI (kd (256 * r + zu (rw i))))), (8, .int (nI (zu (rw i)))), (0, .ref ma), (1, .int (nI m)), (2, .int (nI n8)), (3, .int (nI (2 ^ m))), (4, .int (nI fs)), (6, .int (zb fu))]) rfl ?_
      refine zx_goto (pc := 231) C 75 d_MO_pack2_231 (by decide) ?_
      refine zx_lv (lv' := [(0, .ref ma), (1, .int (nI m)), (2, .int (nI n8)), (3, .int (nI (2 ^ m))), (4, .int (nI fs)), (5, .int (nI (kd (256 * r + zu (rw i))))), (6, .int (zb fu)), (7, .int (nI (i + 1)))]) [3, 4, 5, 6, 7, 1, 8, 0] rfl ?_
      exact k75 c78 c108

set_option maxRecDepth 100000 in
set_option maxHeartbeats 4000000 in
theorem sg_MP_130 {p : Program} {l : Launch} {e : Env} {s : State} {mi : MethodId} {args : Array Value} {below : List Frame} {meth : Method} {co : Code} {D : va_G} {cB cI cL : ClassId} {Q : State → Prop} {A : Nat → Prop} (C : zx_C p s mi args co b_MO_pack2 10 R_MO zB D zcl (zt cB cI cL) A) {ma tp rp dp wp op bp lp ep kp tn rn m n8 fs r i ix n v wb b x V P : Nat} {fl dn wn ba : Int32} {fu fr : Bool} {rw ou : Nat → Int32} {kd : Nat → Nat} (hz : zS ou n v wb V P) (hwb : wb < 8) (hc : r < 2 ^ b) (hP : P + b < 524288) (hm : 2 ≤ m ∧ m ≤ 8) (hi : ze_inv m b x fr) (hc2 : 2 ^ m < 2 ^ (zn_b b x fr)) (hk2 : zn_b b x fr ≤ 12) (hP2 : P + b + zn_b b x fr < 524288) (e199 : ∀ f2 : Nat → Int32, ∀ n2 : Nat, ∀ v2 : Nat, ∀ w2 : Nat, (zS f2 n2 v2 w2 (V + r * 2 ^ P) (P + b) ∧ w2 < 8) → ((zb fu) = 0) → ((256 : Int32) * (nI r)) = (nI (256 * r))) (e202 : ∀ f2 : Nat → Int32, ∀ n2 : Nat, ∀ v2 : Nat, ∀ w2 : Nat, (zS f2 n2 v2 w2 (V + r * 2 ^ P) (P + b) ∧ w2 < 8) → ((zb fu) = 0) → ((nI (256 * r)) + (nI ix)) = (nI (256 * r + ix))) (b205 : ∀ f2 : Nat → Int32, ∀ n2 : Nat, ∀ v2 : Nat, ∀ w2 : Nat, (zS f2 n2 v2 w2 (V + r * 2 ^ P) (P + b) ∧ w2 < 8) → ((zb fu) = 0) → (nI (256 * r + ix)) = nI (256 * r + ix) ∧ (256 * r + ix) < 1048576) (e221 : ∀ f2 : Nat → Int32, ∀ n2 : Nat, ∀ v2 : Nat, ∀ w2 : Nat, (zS f2 n2 v2 w2 (V + r * 2 ^ P) (P + b) ∧ w2 < 8) → ((zb fu) = 0) → (¬ (nI fs) = (4095 : Int32)) → (nI fs) + (1 : Int32) = (nI (fs + 1))) (k224 : ∀ f2 : Nat → Int32, ∀ n2 : Nat, ∀ v2 : Nat, ∀ w2 : Nat, (zS f2 n2 v2 w2 (V + r * 2 ^ P) (P + b) ∧ w2 < 8) → ((zb fu) = 0) → (¬ (nI fs) = (4095 : Int32)) → zx_At p l e (zr 4 0 0) s mi args below meth co Q D zcl A 10 [(0, .ref ma), (1, .int (nI m)), (2, .int (nI n8)), (3, .int (nI (2 ^ m))), (4, .int (nI (fs + 1))), (6, .int (0 : Int32)), (7, .int (nI i)), (8, .int (nI ix))] [(ma, .inr (5, [.int fl, .ref tp, .int (nI tn), .ref rp, .int (nI rn), .ref dp, .int dn, .ref wp, .int wn, .int ba, .ref op, .int (nI n2), .ref bp, .ref lp, .ref ep, .int (nI v2), .int (nI w2), .int (nI (zn_b b x fr)), .int (nI (zn_x x fr)), .int (zb false), .ref kp])), (wp, .inl (cB, 16384, .inl rw)), (op, .inl (cB, 65536, .inl f2)), (kp, .inl (cI, 1048576, .inl (upd (zf kd) (256 * r + ix) (nI fs))))] 0 0 224 []) (e221_2 : ∀ f2 : Nat → Int32, ∀ n2 : Nat, ∀ v2 : Nat, ∀ w2 : Nat, (zS f2 n2 v2 w2 (V + r * 2 ^ P) (P + b) ∧ w2 < 8) → ((zb fu) = 0) → ((nI fs) = (4095 : Int32)) → (nI fs) + (1 : Int32) = (nI (fs + 1))) (k224_2 : ∀ f2 : Nat → Int32, ∀ n2 : Nat, ∀ v2 : Nat, ∀ w2 : Nat, (zS f2 n2 v2 w2 (V + r * 2 ^ P) (P + b) ∧ w2 < 8) → ((zb fu) = 0) → ((nI fs) = (4095 : Int32)) → zx_At p l e (zr 4 0 0) s mi args below meth co Q D zcl A 10 [(0, .ref ma), (1, .int (nI m)), (2, .int (nI n8)), (3, .int (nI (2 ^ m))), (4, .int (nI (fs + 1))), (6, .int (1 : Int32)), (7, .int (nI i)), (8, .int (nI ix))] [(ma, .inr (5, [.int fl, .ref tp, .int (nI tn), .ref rp, .int (nI rn), .ref dp, .int dn, .ref wp, .int wn, .int ba, .ref op, .int (nI n2), .ref bp, .ref lp, .ref ep, .int (nI v2), .int (nI w2), .int (nI (zn_b b x fr)), .int (nI (zn_x x fr)), .int (zb false), .ref kp])), (wp, .inl (cB, 16384, .inl rw)), (op, .inl (cB, 65536, .inl f2)), (kp, .inl (cI, 1048576, .inl (upd (zf kd) (256 * r + ix) (nI fs))))] 0 0 224 []) (k158 : ∀ f2 : Nat → Int32, ∀ n2 : Nat, ∀ v2 : Nat, ∀ w2 : Nat, (zS f2 n2 v2 w2 (V + r * 2 ^ P) (P + b) ∧ w2 < 8) → (¬ (zb fu) = 0) → ∀ f3 : Nat → Int32, ∀ n3 : Nat, ∀ v3 : Nat, ∀ w3 : Nat, (zS f3 n3 v3 w3 ((V + r * 2 ^ P) + (2 ^ m) * 2 ^ (P + b)) ((P + b) + (zn_b b x fr)) ∧ w3 < 8) → zx_At p l e (zr 4 0 0) s mi args below meth co Q D zcl A 10 [(0, .ref ma), (1, .int (nI m)), (2, .int (nI n8)), (3, .int (nI (2 ^ m))), (7, .int (nI i)), (8, .int (nI ix)), (9, .int (0 : Int32))] [(ma, .inr (5, [.int fl, .ref tp, .int (nI tn), .ref rp, .int (nI rn), .ref dp, .int dn, .ref wp, .int wn, .int ba, .ref op, .int (nI n3), .ref bp, .ref lp, .ref ep, .int (nI v3), .int (nI w3), .int (nI (m + 1)), .int (nI (2 ^ m + 2)), .int (zb true), .ref kp])), (wp, .inl (cB, 16384, .inl rw)), (op, .inl (cB, 65536, .inl f3)), (kp, .inl (cI, 1048576, .inl (zf kd)))] 0 0 158 []) : zx_At p l e (zr 4 0 0) s mi args below meth co Q D zcl A 10 [(0, .ref ma), (1, .int (nI m)), (2, .int (nI n8)), (3, .int (nI (2 ^ m))), (4, .int (nI fs)), (5, .int (nI r)), (6, .int (zb fu)), (7, .int (nI i)), (8, .int (nI ix))] [(ma, .inr (5, [.int fl, .ref tp, .int (nI tn), .ref rp, .int (nI rn), .ref dp, .int dn, .ref wp, .int wn, .int ba, .ref op, .int (nI n), .ref bp, .ref lp, .ref ep, .int (nI v), .int (nI wb), .int (nI b), .int (nI x), .int (zb fr), .ref kp])), (wp, .inl (cB, 16384, .inl rw)), (op, .inl (cB, 65536, .inl ou)), (kp, .inl (cI, 1048576, .inl (zf kd)))] 0 0 130 [] := by
  refine zx_aload_n (pc := 130) C d_MO_pack2_130 rfl 0 rfl ?_
  refine zx_iload (pc := 131) C d_MO_pack2_131 5 rfl ?_
  refine zx_callV (pc := 133) (ix := 106) (As := [.int (nI r)]) (b := ma) (q0 := 0) (wr := [(wp, .inl (cB, 16384, .inl rw)), (kp, .inl (cI, 1048576, .inl (zf kd)))]) (st := []) C (zx_cw.of (C.w zw_842)) (by decide +kernel) ⟨by decide +kernel, by decide +kernel⟩ zw_841 zs_MO_emit zw_839 rfl rfl rfl rfl rfl (k_MO_emit l D cB cI cL ma tp rp dp wp op bp lp ep kp tn rn n v wb b x r V P m fl dn wn ba fr ou hz hwb hc hP hm hi) rfl [0, 2] [1, 3] rfl rfl (by decide) (by decide) (by decide) (Nat.le_of_ble_eq_true rfl) (Nat.le_of_ble_eq_true rfl) (Nat.le_of_ble_eq_true rfl) (Nat.le_of_ble_eq_true rfl) d_MO_pack2_133 (fun o w1 hp => ?_)
  obtain ⟨f2, n2, v2, w2, hc133, rfl, rfl⟩ := hp
  refine zx_rv (k2 := 0) (n2 := 0) rfl rfl ?_
  refine zx_ws (ws' := [(ma, .inr (5, [.int fl, .ref tp, .int (nI tn), .ref rp, .int (nI rn), .ref dp, .int dn, .ref wp, .int wn, .int ba, .ref op, .int (nI n2), .ref bp, .ref lp, .ref ep, .int (nI v2), .int (nI w2), .int (nI (zn_b b x fr)), .int (nI (zn_x x fr)), .int (zb false), .ref kp])), (wp, .inl (cB, 16384, .inl rw)), (op, .inl (cB, 65536, .inl f2)), (kp, .inl (cI, 1048576, .inl (zf kd)))]) [2, 0, 3, 1] (by decide) rfl ?_
  refine zx_iload (pc := 136) C d_MO_pack2_136 6 rfl ?_
  refine zx_if_eq (pc := 138) C 190 d_MO_pack2_138 (by decide) (fun c138 => ?_) (fun c138 => ?_)
  · refine zx_aload_n (pc := 190) C d_MO_pack2_190 rfl 0 rfl ?_
    refine zx_get (pc := 191) (ci := 5) (Cn := R_MO) (T := T_MO) (N := 21) (v := .ref kp) C zu_MO 0 rfl rfl 20 (by decide) zw_723 rfl rfl d_MO_pack2_191 ?_
    refine zx_sipush (pc := 194) C d_MO_pack2_194 (v := (256 : Int32)) (by decide) ?_
    refine zx_iload (pc := 197) C d_MO_pack2_197 5 rfl ?_
    refine zx_imul (pc := 199) C d_MO_pack2_199 ?_
    refine zx_seti (nI (256 * r)) (e199 f2 n2 v2 w2 hc133 c138) ?_
    refine zx_iload (pc := 200) C d_MO_pack2_200 8 rfl ?_
    refine zx_iadd (pc := 202) C d_MO_pack2_202 ?_
    refine zx_seti (nI (256 * r + ix)) (e202 f2 n2 v2 w2 hc133 c138) ?_
    refine zx_iload (pc := 203) C d_MO_pack2_203 4 rfl ?_
    refine zx_iast (pc := 205) (ws' := [(ma, .inr (5, [.int fl, .ref tp, .int (nI tn), .ref rp, .int (nI rn), .ref dp, .int dn, .ref wp, .int wn, .int ba, .ref op, .int (nI n2), .ref bp, .ref lp, .ref ep, .int (nI v2), .int (nI w2), .int (nI (zn_b b x fr)), .int (nI (zn_x x fr)), .int (zb false), .ref kp])), (wp, .inl (cB, 16384, .inl rw)), (op, .inl (cB, 65536, .inl f2)), (kp, .inl (cI, 1048576, .inl (upd (zf kd) (256 * r + ix) (nI fs))))]) C 3 1 rfl rfl (256 * r + ix) (b205 f2 n2 v2 w2 hc133 c138).1 (b205 f2 n2 v2 w2 hc133 c138).2 (by decide) rfl d_MO_pack2_205 ?_
    refine zx_iload (pc := 206) C d_MO_pack2_206 4 rfl ?_
    refine zx_sipush (pc := 208) C d_MO_pack2_208 (v := (4095 : Int32)) (by decide) ?_
    refine zx_icmp_ne (pc := 211) C 218 d_MO_pack2_211 (by decide) (fun c211 => ?_) (fun c211 => ?_)
    · refine zx_iconst (pc := 218) C d_MO_pack2_218 (v := (0 : Int32)) (by decide) ?_
      refine zx_istore (pc := 219) C d_MO_pack2_219 (by decide) (lv' := [(6, .int (0 : Int32)), (0, .ref ma), (1, .int (nI m)), (2, .int (nI n8)), (3, .int (nI (2 ^ m))), (4, .int (nI fs)), (5, .int (nI r)), (7, .int (nI i)), (8, .int (nI ix))]) rfl ?_
      refine zx_iinc (pc := 221) C d_MO_pack2_221 5 rfl (v := (nI (fs + 1))) (e221 f2 n2 v2 w2 hc133 c138 c211) (by decide) (lv' := [(4, .int (nI (fs + 1))), (6, .int (0 : Int32)), (0, .ref ma), (1, .int (nI m)), (2, .int (nI n8)), (3, .int (nI (2 ^ m))), (5, .int (nI r)), (7, .int (nI i)), (8, .int (nI ix))]) rfl ?_
      refine zx_lv (lv' := [(0, .ref ma), (1, .int (nI m)), (2, .int (nI n8)), (3, .int (nI (2 ^ m))), (4, .int (nI (fs + 1))), (6, .int (0 : Int32)), (7, .int (nI i)), (8, .int (nI ix))]) [2, 3, 4, 5, 0, 1, 7, 8] rfl ?_
      exact k224 f2 n2 v2 w2 hc133 c138 c211
    · refine zx_iconst (pc := 214) C d_MO_pack2_214 (v := (1 : Int32)) (by decide) ?_
      refine zx_goto (pc := 215) C 219 d_MO_pack2_215 (by decide) ?_
      refine zx_istore (pc := 219) C d_MO_pack2_219 (by decide) (lv' := [(6, .int (1 : Int32)), (0, .ref ma), (1, .int (nI m)), (2, .int (nI n8)), (3, .int (nI (2 ^ m))), (4, .int (nI fs)), (5, .int (nI r)), (7, .int (nI i)), (8, .int (nI ix))]) rfl ?_
      refine zx_iinc (pc := 221) C d_MO_pack2_221 5 rfl (v := (nI (fs + 1))) (e221_2 f2 n2 v2 w2 hc133 c138 c211) (by decide) (lv' := [(4, .int (nI (fs + 1))), (6, .int (1 : Int32)), (0, .ref ma), (1, .int (nI m)), (2, .int (nI n8)), (3, .int (nI (2 ^ m))), (5, .int (nI r)), (7, .int (nI i)), (8, .int (nI ix))]) rfl ?_
      refine zx_lv (lv' := [(0, .ref ma), (1, .int (nI m)), (2, .int (nI n8)), (3, .int (nI (2 ^ m))), (4, .int (nI (fs + 1))), (6, .int (1 : Int32)), (7, .int (nI i)), (8, .int (nI ix))]) [2, 3, 4, 5, 0, 1, 7, 8] rfl ?_
      exact k224_2 f2 n2 v2 w2 hc133 c138 c211
  · refine zx_aload_n (pc := 141) C d_MO_pack2_141 rfl 0 rfl ?_
    refine zx_iload_n (pc := 142) C d_MO_pack2_142 rfl 3 rfl ?_
    refine zx_aload_n (pc := 143) C d_MO_pack2_143 rfl 0 rfl ?_
    refine zx_get (pc := 144) (ci := 5) (Cn := R_MO) (T := T_MO) (N := 21) (v := .int (nI (zn_b b x fr))) C zu_MO 0 rfl rfl 17 (by decide) zw_720 rfl rfl d_MO_pack2_144 ?_
    refine zx_callV (pc := 147) (ix := 99) (As := [.int (nI (2 ^ m)), .int (nI (zn_b b x fr))]) (b := ma) (q0 := 0) (wr := [(wp, .inl (cB, 16384, .inl rw)), (kp, .inl (cI, 1048576, .inl (zf kd)))]) (st := []) C (zx_cw.of (C.w zw_830)) (by decide +kernel) ⟨by decide +kernel, by decide +kernel⟩ zw_829 zs_MO_putBits zw_827 rfl rfl rfl rfl rfl (k_MO_putBits l D cB cI cL ma tp rp dp wp op bp lp ep kp tn rn n2 v2 w2 (2 ^ m) (zn_b b x fr) (V + r * 2 ^ P) (P + b) fl dn wn ba (nI (zn_b b x fr)) (nI (zn_x x fr)) (zb false) f2 hc133.1 hc133.2 hc2 hk2 hP2) rfl [0, 2] [1, 3] rfl rfl (by decide) (by decide) (by decide) (Nat.le_of_ble_eq_true rfl) (Nat.le_of_ble_eq_true rfl) (Nat.le_of_ble_eq_true rfl) (Nat.le_of_ble_eq_true rfl) d_MO_pack2_147 (fun o w1 hp => ?_)
    obtain ⟨f3, n3, v3, w3, hc147, rfl, rfl⟩ := hp
    refine zx_rv (k2 := 0) (n2 := 0) rfl rfl ?_
    refine zx_ws (ws' := [(ma, .inr (5, [.int fl, .ref tp, .int (nI tn), .ref rp, .int (nI rn), .ref dp, .int dn, .ref wp, .int wn, .int ba, .ref op, .int (nI n3), .ref bp, .ref lp, .ref ep, .int (nI v3), .int (nI w3), .int (nI (zn_b b x fr)), .int (nI (zn_x x fr)), .int (zb false), .ref kp])), (wp, .inl (cB, 16384, .inl rw)), (op, .inl (cB, 65536, .inl f3)), (kp, .inl (cI, 1048576, .inl (zf kd)))]) [2, 0, 3, 1] (by decide) rfl ?_
    refine zx_aload_n (pc := 150) C d_MO_pack2_150 rfl 0 rfl ?_
    refine zx_iload_n (pc := 151) C d_MO_pack2_151 rfl 1 rfl ?_
    refine zx_callV (pc := 152) (ix := 103) (As := [.int (nI m)]) (b := ma) (q0 := 0) (wr := [(wp, .inl (cB, 16384, .inl rw)), (op, .inl (cB, 65536, .inl f3)), (kp, .inl (cI, 1048576, .inl (zf kd)))]) (st := []) C (zx_cw.of (C.w zw_826)) (by decide +kernel) ⟨by decide +kernel, by decide +kernel⟩ zw_825 zs_MO_begin zw_823 rfl rfl rfl rfl rfl (k_MO_begin l D cB cI cL (zr 0 0 0) ma tp rp dp wp op bp lp ep kp tn rn m fl dn wn ba (nI n3) (nI v3) (nI w3) (nI (zn_b b x fr)) (nI (zn_x x fr)) (zb false) hm.2) rfl [0] [1, 2, 3] rfl rfl (by decide) (by decide) (by decide) (Nat.le_of_ble_eq_true rfl) (Nat.le_of_ble_eq_true rfl) (Nat.le_of_ble_eq_true rfl) (Nat.le_of_ble_eq_true rfl) d_MO_pack2_152 (fun o w1 hp => ?_)
    obtain ⟨rfl, rfl⟩ := hp
    refine zx_rv (k2 := 0) (n2 := 0) rfl rfl ?_
    refine zx_ws (ws' := [(ma, .inr (5, [.int fl, .ref tp, .int (nI tn), .ref rp, .int (nI rn), .ref dp, .int dn, .ref wp, .int wn, .int ba, .ref op, .int (nI n3), .ref bp, .ref lp, .ref ep, .int (nI v3), .int (nI w3), .int (nI (m + 1)), .int (nI (2 ^ m + 2)), .int (zb true), .ref kp])), (wp, .inl (cB, 16384, .inl rw)), (op, .inl (cB, 65536, .inl f3)), (kp, .inl (cI, 1048576, .inl (zf kd)))]) [3, 0, 1, 2] (by decide) rfl ?_
    refine zx_iconst (pc := 155) C d_MO_pack2_155 (v := (0 : Int32)) (by decide) ?_
    refine zx_istore (pc := 156) C d_MO_pack2_156 (by decide) (lv' := [(9, .int (0 : Int32)), (0, .ref ma), (1, .int (nI m)), (2, .int (nI n8)), (3, .int (nI (2 ^ m))), (4, .int (nI fs)), (5, .int (nI r)), (6, .int (zb fu)), (7, .int (nI i)), (8, .int (nI ix))]) rfl ?_
    refine zx_lv (lv' := [(0, .ref ma), (1, .int (nI m)), (2, .int (nI n8)), (3, .int (nI (2 ^ m))), (7, .int (nI i)), (8, .int (nI ix)), (9, .int (0 : Int32))]) [1, 2, 3, 4, 8, 9, 0] rfl ?_
    exact k158 f2 n2 v2 w2 hc133 c138 f3 n3 v3 w3 hc147

set_option maxRecDepth 100000 in
set_option maxHeartbeats 4000000 in
theorem sg_MP_224 {p : Program} {l : Launch} {e : Env} {R : Room} {s : State} {mi : MethodId} {args : Array Value} {below : List Frame} {meth : Method} {co : Code} {D : va_G} {cB cI cL : ClassId} {Q : State → Prop} {A : Nat → Prop} (C : zx_C p s mi args co b_MO_pack2 10 R_MO zB D zcl (zt cB cI cL) A) {ma tp rp dp wp op bp lp ep kp tn rn : Nat} {fl dn wn ba on bb bc cw cx cf : Int32} {m n8 i ix : Nat} {f9 g9 : Int32} {rw ou : Nat → Int32} {kd : Nat → Nat} (e228 : (nI i) + (1 : Int32) = (nI (i + 1))) (k75 : zx_At p l e R s mi args below meth co Q D zcl A 10 [(0, .ref ma), (1, .int (nI m)), (2, .int (nI n8)), (3, .int (nI (2 ^ m))), (4, .int f9), (5, .int (nI ix)), (6, .int g9), (7, .int (nI (i + 1)))] [(ma, .inr (5, [.int fl, .ref tp, .int (nI tn), .ref rp, .int (nI rn), .ref dp, .int dn, .ref wp, .int wn, .int ba, .ref op, .int on, .ref bp, .ref lp, .ref ep, .int bb, .int bc, .int cw, .int cx, .int cf, .ref kp])), (wp, .inl (cB, 16384, .inl rw)), (op, .inl (cB, 65536, .inl ou)), (kp, .inl (cI, 1048576, .inl (zf kd)))] 0 0 75 []) : zx_At p l e R s mi args below meth co Q D zcl A 10 [(0, .ref ma), (1, .int (nI m)), (2, .int (nI n8)), (3, .int (nI (2 ^ m))), (4, .int f9), (6, .int g9), (7, .int (nI i)), (8, .int (nI ix))] [(ma, .inr (5, [.int fl, .ref tp, .int (nI tn), .ref rp, .int (nI rn), .ref dp, .int dn, .ref wp, .int wn, .int ba, .ref op, .int on, .ref bp, .ref lp, .ref ep, .int bb, .int bc, .int cw, .int cx, .int cf, .ref kp])), (wp, .inl (cB, 16384, .inl rw)), (op, .inl (cB, 65536, .inl ou)), (kp, .inl (cI, 1048576, .inl (zf kd)))] 0 0 224 [] := by
  refine zx_iload (pc := 224) C d_MO_pack2_224 7 rfl ?_
  refine zx_istore (pc := 226) C d_MO_pack2_226 (by decide) (lv' := [(5, .int (nI ix)), (0, .ref ma), (1, .int (nI m)), (2, .int (nI n8)), (3, .int (nI (2 ^ m))), (4, .int f9), (6, .int g9), (7, .int (nI i)), (8, .int (nI ix))]) rfl ?_
  refine zx_iinc (pc := 228) C d_MO_pack2_228 7 rfl (v := (nI (i + 1))) (e228) (by decide) (lv' := [(7, .int (nI (i + 1))), (5, .int (nI ix)), (0, .ref ma), (1, .int (nI m)), (2, .int (nI n8)), (3, .int (nI (2 ^ m))), (4, .int f9), (6, .int g9), (8, .int (nI ix))]) rfl ?_
  refine zx_goto (pc := 231) C 75 d_MO_pack2_231 (by decide) ?_
  refine zx_lv (lv' := [(0, .ref ma), (1, .int (nI m)), (2, .int (nI n8)), (3, .int (nI (2 ^ m))), (4, .int f9), (5, .int (nI ix)), (6, .int g9), (7, .int (nI (i + 1)))]) [2, 3, 4, 5, 6, 1, 7, 0] rfl ?_
  exact k75

set_option maxRecDepth 100000 in
set_option maxHeartbeats 4000000 in
theorem sg_MP_234 {p : Program} {l : Launch} {e : Env} {s : State} {mi : MethodId} {args : Array Value} {below : List Frame} {meth : Method} {co : Code} {D : va_G} {cB cI cL : ClassId} {Q : State → Prop} {A : Nat → Prop} (C : zx_C p s mi args co b_MO_pack2 10 R_MO zB D zcl (zt cB cI cL) A) {ma tp rp dp wp op bp lp ep kp tn rn m n8 r n v wb b x V P : Nat} {fl dn wn ba : Int32} {fu fr : Bool} {rw ou : Nat → Int32} {kd : Nat → Nat} (hz : zS ou n v wb V P) (hwb : wb < 8) (hc : r < 2 ^ b) (hP : P + b < 524288) (hm : 2 ≤ m ∧ m ≤ 8) (hi : ze_inv m b x fr) (hc2 : 2 ^ m < 2 ^ (zn_b b x fr)) (hk2 : zn_b b x fr ≤ 12) (hP2 : P + b + zn_b b x fr < 524288) (k259 : ∀ f2 : Nat → Int32, ∀ n2 : Nat, ∀ v2 : Nat, ∀ w2 : Nat, (zS f2 n2 v2 w2 (V + r * 2 ^ P) (P + b) ∧ w2 < 8) → ((zb fu) = 0) → zx_At p l e (zr 4 0 0) s mi args below meth co Q D zcl A 10 [(0, .ref ma), (1, .int (nI m)), (2, .int (nI n8)), (3, .int (nI (2 ^ m)))] [(ma, .inr (5, [.int fl, .ref tp, .int (nI tn), .ref rp, .int (nI rn), .ref dp, .int dn, .ref wp, .int wn, .int ba, .ref op, .int (nI n2), .ref bp, .ref lp, .ref ep, .int (nI v2), .int (nI w2), .int (nI (zn_b b x fr)), .int (nI (zn_x x fr)), .int (zb false), .ref kp])), (wp, .inl (cB, 16384, .inl rw)), (op, .inl (cB, 65536, .inl f2)), (kp, .inl (cI, 1048576, .inl (zf kd)))] 0 0 259 []) (k259_2 : ∀ f2 : Nat → Int32, ∀ n2 : Nat, ∀ v2 : Nat, ∀ w2 : Nat, (zS f2 n2 v2 w2 (V + r * 2 ^ P) (P + b) ∧ w2 < 8) → (¬ (zb fu) = 0) → ∀ f3 : Nat → Int32, ∀ n3 : Nat, ∀ v3 : Nat, ∀ w3 : Nat, (zS f3 n3 v3 w3 ((V + r * 2 ^ P) + (2 ^ m) * 2 ^ (P + b)) ((P + b) + (zn_b b x fr)) ∧ w3 < 8) → zx_At p l e (zr 4 0 0) s mi args below meth co Q D zcl A 10 [(0, .ref ma), (1, .int (nI m)), (2, .int (nI n8)), (3, .int (nI (2 ^ m)))] [(ma, .inr (5, [.int fl, .ref tp, .int (nI tn), .ref rp, .int (nI rn), .ref dp, .int dn, .ref wp, .int wn, .int ba, .ref op, .int (nI n3), .ref bp, .ref lp, .ref ep, .int (nI v3), .int (nI w3), .int (nI (m + 1)), .int (nI (2 ^ m + 2)), .int (zb true), .ref kp])), (wp, .inl (cB, 16384, .inl rw)), (op, .inl (cB, 65536, .inl f3)), (kp, .inl (cI, 1048576, .inl (zf kd)))] 0 0 259 []) : zx_At p l e (zr 4 0 0) s mi args below meth co Q D zcl A 10 [(0, .ref ma), (1, .int (nI m)), (2, .int (nI n8)), (3, .int (nI (2 ^ m))), (5, .int (nI r)), (6, .int (zb fu))] [(ma, .inr (5, [.int fl, .ref tp, .int (nI tn), .ref rp, .int (nI rn), .ref dp, .int dn, .ref wp, .int wn, .int ba, .ref op, .int (nI n), .ref bp, .ref lp, .ref ep, .int (nI v), .int (nI wb), .int (nI b), .int (nI x), .int (zb fr), .ref kp])), (wp, .inl (cB, 16384, .inl rw)), (op, .inl (cB, 65536, .inl ou)), (kp, .inl (cI, 1048576, .inl (zf kd)))] 0 0 234 [] := by
  refine zx_aload_n (pc := 234) C d_MO_pack2_234 rfl 0 rfl ?_
  refine zx_iload (pc := 235) C d_MO_pack2_235 4 rfl ?_
  refine zx_callV (pc := 237) (ix := 106) (As := [.int (nI r)]) (b := ma) (q0 := 0) (wr := [(wp, .inl (cB, 16384, .inl rw)), (kp, .inl (cI, 1048576, .inl (zf kd)))]) (st := []) C (zx_cw.of (C.w zw_842)) (by decide +kernel) ⟨by decide +kernel, by decide +kernel⟩ zw_841 zs_MO_emit zw_839 rfl rfl rfl rfl rfl (k_MO_emit l D cB cI cL ma tp rp dp wp op bp lp ep kp tn rn n v wb b x r V P m fl dn wn ba fr ou hz hwb hc hP hm hi) rfl [0, 2] [1, 3] rfl rfl (by decide) (by decide) (by decide) (Nat.le_of_ble_eq_true rfl) (Nat.le_of_ble_eq_true rfl) (Nat.le_of_ble_eq_true rfl) (Nat.le_of_ble_eq_true rfl) d_MO_pack2_237 (fun o w1 hp => ?_)
  obtain ⟨f2, n2, v2, w2, hc237, rfl, rfl⟩ := hp
  refine zx_rv (k2 := 0) (n2 := 0) rfl rfl ?_
  refine zx_ws (ws' := [(ma, .inr (5, [.int fl, .ref tp, .int (nI tn), .ref rp, .int (nI rn), .ref dp, .int dn, .ref wp, .int wn, .int ba, .ref op, .int (nI n2), .ref bp, .ref lp, .ref ep, .int (nI v2), .int (nI w2), .int (nI (zn_b b x fr)), .int (nI (zn_x x fr)), .int (zb false), .ref kp])), (wp, .inl (cB, 16384, .inl rw)), (op, .inl (cB, 65536, .inl f2)), (kp, .inl (cI, 1048576, .inl (zf kd)))]) [2, 0, 3, 1] (by decide) rfl ?_
  refine zx_iload (pc := 240) C d_MO_pack2_240 5 rfl ?_
  refine zx_if_eq (pc := 242) C 259 d_MO_pack2_242 (by decide) (fun c242 => ?_) (fun c242 => ?_)
  · refine zx_lv (lv' := [(0, .ref ma), (1, .int (nI m)), (2, .int (nI n8)), (3, .int (nI (2 ^ m)))]) [0, 1, 2, 3] rfl ?_
    exact k259 f2 n2 v2 w2 hc237 c242
  · refine zx_aload_n (pc := 245) C d_MO_pack2_245 rfl 0 rfl ?_
    refine zx_iload_n (pc := 246) C d_MO_pack2_246 rfl 3 rfl ?_
    refine zx_aload_n (pc := 247) C d_MO_pack2_247 rfl 0 rfl ?_
    refine zx_get (pc := 248) (ci := 5) (Cn := R_MO) (T := T_MO) (N := 21) (v := .int (nI (zn_b b x fr))) C zu_MO 0 rfl rfl 17 (by decide) zw_720 rfl rfl d_MO_pack2_248 ?_
    refine zx_callV (pc := 251) (ix := 99) (As := [.int (nI (2 ^ m)), .int (nI (zn_b b x fr))]) (b := ma) (q0 := 0) (wr := [(wp, .inl (cB, 16384, .inl rw)), (kp, .inl (cI, 1048576, .inl (zf kd)))]) (st := []) C (zx_cw.of (C.w zw_830)) (by decide +kernel) ⟨by decide +kernel, by decide +kernel⟩ zw_829 zs_MO_putBits zw_827 rfl rfl rfl rfl rfl (k_MO_putBits l D cB cI cL ma tp rp dp wp op bp lp ep kp tn rn n2 v2 w2 (2 ^ m) (zn_b b x fr) (V + r * 2 ^ P) (P + b) fl dn wn ba (nI (zn_b b x fr)) (nI (zn_x x fr)) (zb false) f2 hc237.1 hc237.2 hc2 hk2 hP2) rfl [0, 2] [1, 3] rfl rfl (by decide) (by decide) (by decide) (Nat.le_of_ble_eq_true rfl) (Nat.le_of_ble_eq_true rfl) (Nat.le_of_ble_eq_true rfl) (Nat.le_of_ble_eq_true rfl) d_MO_pack2_251 (fun o w1 hp => ?_)
    obtain ⟨f3, n3, v3, w3, hc251, rfl, rfl⟩ := hp
    refine zx_rv (k2 := 0) (n2 := 0) rfl rfl ?_
    refine zx_ws (ws' := [(ma, .inr (5, [.int fl, .ref tp, .int (nI tn), .ref rp, .int (nI rn), .ref dp, .int dn, .ref wp, .int wn, .int ba, .ref op, .int (nI n3), .ref bp, .ref lp, .ref ep, .int (nI v3), .int (nI w3), .int (nI (zn_b b x fr)), .int (nI (zn_x x fr)), .int (zb false), .ref kp])), (wp, .inl (cB, 16384, .inl rw)), (op, .inl (cB, 65536, .inl f3)), (kp, .inl (cI, 1048576, .inl (zf kd)))]) [2, 0, 3, 1] (by decide) rfl ?_
    refine zx_aload_n (pc := 254) C d_MO_pack2_254 rfl 0 rfl ?_
    refine zx_iload_n (pc := 255) C d_MO_pack2_255 rfl 1 rfl ?_
    refine zx_callV (pc := 256) (ix := 103) (As := [.int (nI m)]) (b := ma) (q0 := 0) (wr := [(wp, .inl (cB, 16384, .inl rw)), (op, .inl (cB, 65536, .inl f3)), (kp, .inl (cI, 1048576, .inl (zf kd)))]) (st := []) C (zx_cw.of (C.w zw_826)) (by decide +kernel) ⟨by decide +kernel, by decide +kernel⟩ zw_825 zs_MO_begin zw_823 rfl rfl rfl rfl rfl (k_MO_begin l D cB cI cL (zr 0 0 0) ma tp rp dp wp op bp lp ep kp tn rn m fl dn wn ba (nI n3) (nI v3) (nI w3) (nI (zn_b b x fr)) (nI (zn_x x fr)) (zb false) hm.2) rfl [0] [1, 2, 3] rfl rfl (by decide) (by decide) (by decide) (Nat.le_of_ble_eq_true rfl) (Nat.le_of_ble_eq_true rfl) (Nat.le_of_ble_eq_true rfl) (Nat.le_of_ble_eq_true rfl) d_MO_pack2_256 (fun o w1 hp => ?_)
    obtain ⟨rfl, rfl⟩ := hp
    refine zx_rv (k2 := 0) (n2 := 0) rfl rfl ?_
    refine zx_ws (ws' := [(ma, .inr (5, [.int fl, .ref tp, .int (nI tn), .ref rp, .int (nI rn), .ref dp, .int dn, .ref wp, .int wn, .int ba, .ref op, .int (nI n3), .ref bp, .ref lp, .ref ep, .int (nI v3), .int (nI w3), .int (nI (m + 1)), .int (nI (2 ^ m + 2)), .int (zb true), .ref kp])), (wp, .inl (cB, 16384, .inl rw)), (op, .inl (cB, 65536, .inl f3)), (kp, .inl (cI, 1048576, .inl (zf kd)))]) [3, 0, 1, 2] (by decide) rfl ?_
    refine zx_lv (lv' := [(0, .ref ma), (1, .int (nI m)), (2, .int (nI n8)), (3, .int (nI (2 ^ m)))]) [0, 1, 2, 3] rfl ?_
    exact k259_2 f2 n2 v2 w2 hc237 c242 f3 n3 v3 w3 hc251

set_option maxRecDepth 100000 in
set_option maxHeartbeats 4000000 in
theorem sg_MP_259 {p : Program} {l : Launch} {e : Env} {s : State} {mi : MethodId} {args : Array Value} {below : List Frame} {meth : Method} {co : Code} {D : va_G} {cB cI cL : ClassId} {w0 : va_W} {kr nr : Nat} {post : Outcome → va_W → Prop} (C : zx_C p s mi args co b_MO_pack2 10 R_MO zB D zcl (zt cB cI cL) (va_A w0 s.heap.size)) {ma tp rp dp wp op bp lp ep kp tn rn m n8 n v wb b x V P : Nat} {fl dn wn ba : Int32} {fr : Bool} {rw ou : Nat → Int32} {kd : Nat → Nat} (hz : zS ou n v wb V P) (hwb : wb < 8) (hc : 2 ^ m + 1 < 2 ^ b) (hk : b ≤ 12) (hP : P + b < 524288) (hfl : ∀ (f2 : Nat → Int32) (n2 v2 w2 : Nat), zS f2 n2 v2 w2 (V + (2 ^ m + 1) * 2 ^ P) (P + b) ∧ w2 < 8 → n2 < 65536) (hr9 : meth.sig.returnType = none) (hlk9 : meth.locks = false) (e262 : ((nI (2 ^ m)) + (1 : Int32)) = (nI (2 ^ m + 1))) (r274 : ∀ f2 : Nat → Int32, ∀ n2 : Nat, ∀ v2 : Nat, ∀ w2 : Nat, (zS f2 n2 v2 w2 (V + (2 ^ m + 1) * 2 ^ P) (P + b) ∧ w2 < 8) → (w2 = 0) → post (.returned none) [(ma, .inr (5, [.int fl, .ref tp, .int (nI tn), .ref rp, .int (nI rn), .ref dp, .int dn, .ref wp, .int wn, .int ba, .ref op, .int (nI n2), .ref bp, .ref lp, .ref ep, .int (nI v2), .int (nI w2), .int (nI b), .int (nI x), .int (zb fr), .ref kp])), (wp, .inl (cB, 16384, .inl rw)), (op, .inl (cB, 65536, .inl f2)), (kp, .inl (cI, 1048576, .inl (zf kd)))]) (r274_2 : ∀ f2 : Nat → Int32, ∀ n2 : Nat, ∀ v2 : Nat, ∀ w2 : Nat, (zS f2 n2 v2 w2 (V + (2 ^ m + 1) * 2 ^ P) (P + b) ∧ w2 < 8) → (w2 ≠ 0) → post (.returned none) [(ma, .inr (5, [.int fl, .ref tp, .int (nI tn), .ref rp, .int (nI rn), .ref dp, .int dn, .ref wp, .int wn, .int ba, .ref op, .int (nI (n2 + 1)), .ref bp, .ref lp, .ref ep, .int (nI 0), .int (nI 0), .int (nI b), .int (nI x), .int (zb fr), .ref kp])), (wp, .inl (cB, 16384, .inl rw)), (op, .inl (cB, 65536, .inl (upd f2 n2 (zby v2)))), (kp, .inl (cI, 1048576, .inl (zf kd)))]) : zx_At p l e (zr 4 0 0) s mi args below meth co (zx_Q below s D zcl w0 kr nr (zr 4 0 0) post) D zcl (va_A w0 s.heap.size) 10 [(0, .ref ma), (1, .int (nI m)), (2, .int (nI n8)), (3, .int (nI (2 ^ m)))] [(ma, .inr (5, [.int fl, .ref tp, .int (nI tn), .ref rp, .int (nI rn), .ref dp, .int dn, .ref wp, .int wn, .int ba, .ref op, .int (nI n), .ref bp, .ref lp, .ref ep, .int (nI v), .int (nI wb), .int (nI b), .int (nI x), .int (zb fr), .ref kp])), (wp, .inl (cB, 16384, .inl rw)), (op, .inl (cB, 65536, .inl ou)), (kp, .inl (cI, 1048576, .inl (zf kd)))] 0 0 259 [] := by
  refine zx_aload_n (pc := 259) C d_MO_pack2_259 rfl 0 rfl ?_
  refine zx_iload_n (pc := 260) C d_MO_pack2_260 rfl 3 rfl ?_
  refine zx_iconst (pc := 261) C d_MO_pack2_261 (v := (1 : Int32)) (by decide) ?_
  refine zx_iadd (pc := 262) C d_MO_pack2_262 ?_
  refine zx_seti (nI (2 ^ m + 1)) (e262) ?_
  refine zx_aload_n (pc := 263) C d_MO_pack2_263 rfl 0 rfl ?_
  refine zx_get (pc := 264) (ci := 5) (Cn := R_MO) (T := T_MO) (N := 21) (v := .int (nI b)) C zu_MO 0 rfl rfl 17 (by decide) zw_720 rfl rfl d_MO_pack2_264 ?_
  refine zx_callV (pc := 267) (ix := 99) (As := [.int (nI (2 ^ m + 1)), .int (nI b)]) (b := ma) (q0 := 0) (wr := [(wp, .inl (cB, 16384, .inl rw)), (kp, .inl (cI, 1048576, .inl (zf kd)))]) (st := []) C (zx_cw.of (C.w zw_830)) (by decide +kernel) ⟨by decide +kernel, by decide +kernel⟩ zw_829 zs_MO_putBits zw_827 rfl rfl rfl rfl rfl (k_MO_putBits l D cB cI cL ma tp rp dp wp op bp lp ep kp tn rn n v wb (2 ^ m + 1) b V P fl dn wn ba (nI b) (nI x) (zb fr) ou hz hwb hc hk hP) rfl [0, 2] [1, 3] rfl rfl (by decide) (by decide) (by decide) (Nat.le_of_ble_eq_true rfl) (Nat.le_of_ble_eq_true rfl) (Nat.le_of_ble_eq_true rfl) (Nat.le_of_ble_eq_true rfl) d_MO_pack2_267 (fun o w1 hp => ?_)
  obtain ⟨f2, n2, v2, w2, hc267, rfl, rfl⟩ := hp
  refine zx_rv (k2 := 0) (n2 := 0) rfl rfl ?_
  refine zx_ws (ws' := [(ma, .inr (5, [.int fl, .ref tp, .int (nI tn), .ref rp, .int (nI rn), .ref dp, .int dn, .ref wp, .int wn, .int ba, .ref op, .int (nI n2), .ref bp, .ref lp, .ref ep, .int (nI v2), .int (nI w2), .int (nI b), .int (nI x), .int (zb fr), .ref kp])), (wp, .inl (cB, 16384, .inl rw)), (op, .inl (cB, 65536, .inl f2)), (kp, .inl (cI, 1048576, .inl (zf kd)))]) [2, 0, 3, 1] (by decide) rfl ?_
  refine zx_aload_n (pc := 270) C d_MO_pack2_270 rfl 0 rfl ?_
  refine zx_callV (pc := 271) (ix := 83) (As := []) (b := ma) (q0 := 0) (wr := [(wp, .inl (cB, 16384, .inl rw)), (kp, .inl (cI, 1048576, .inl (zf kd)))]) (st := []) C (zx_cw.of (C.w zw_834)) (by decide +kernel) ⟨by decide +kernel, by decide +kernel⟩ zw_833 zs_MO_flush zw_831 rfl rfl rfl rfl rfl (k_MO_flush l D cB cI cL ma tp rp dp wp op bp lp ep kp tn rn n2 v2 w2 fl dn wn ba (nI b) (nI x) (zb fr) f2 (fun _ => hfl f2 n2 v2 w2 hc267) (by have := hc267.2; omega)) rfl [0, 2] [1, 3] rfl rfl (by decide) (by decide) (by decide) (Nat.le_of_ble_eq_true rfl) (Nat.le_of_ble_eq_true rfl) (Nat.le_of_ble_eq_true rfl) (Nat.le_of_ble_eq_true rfl) d_MO_pack2_271 (fun o w1 hp => ?_)
  rcases hp with ⟨hc271, rfl, rfl⟩ | ⟨hc271, rfl, rfl⟩
  · refine zx_rv (k2 := 0) (n2 := 0) rfl rfl ?_
    refine zx_ws (ws' := [(ma, .inr (5, [.int fl, .ref tp, .int (nI tn), .ref rp, .int (nI rn), .ref dp, .int dn, .ref wp, .int wn, .int ba, .ref op, .int (nI n2), .ref bp, .ref lp, .ref ep, .int (nI v2), .int (nI w2), .int (nI b), .int (nI x), .int (zb fr), .ref kp])), (wp, .inl (cB, 16384, .inl rw)), (op, .inl (cB, 65536, .inl f2)), (kp, .inl (cI, 1048576, .inl (zf kd)))]) [2, 0, 3, 1] (by decide) rfl ?_
    exact zx_vret (pc := 274) C hr9 hlk9 (Nat.zero_le _) (Nat.zero_le _) d_MO_pack2_274 (r274 f2 n2 v2 w2 hc267 hc271)
  · refine zx_rv (k2 := 0) (n2 := 0) rfl rfl ?_
    refine zx_ws (ws' := [(ma, .inr (5, [.int fl, .ref tp, .int (nI tn), .ref rp, .int (nI rn), .ref dp, .int dn, .ref wp, .int wn, .int ba, .ref op, .int (nI (n2 + 1)), .ref bp, .ref lp, .ref ep, .int (nI 0), .int (nI 0), .int (nI b), .int (nI x), .int (zb fr), .ref kp])), (wp, .inl (cB, 16384, .inl rw)), (op, .inl (cB, 65536, .inl (upd f2 n2 (zby v2)))), (kp, .inl (cI, 1048576, .inl (zf kd)))]) [2, 0, 3, 1] (by decide) rfl ?_
    exact zx_vret (pc := 274) C hr9 hlk9 (Nat.zero_le _) (Nat.zero_le _) d_MO_pack2_274 (r274_2 f2 n2 v2 w2 hc267 hc271)

theorem zx_top {x : Nat} {fr : Bool} (h : x ≤ 4095) : zn_x x fr = ze_top x fr := by
  unfold zn_x ze_top
  cases fr
  · rw [if_pos ⟨rfl, by omega⟩, if_neg (by decide)]
  · rw [if_neg (by simp), if_pos rfl]
/-- the first k cleared -/
def zkz (kd : Nat → Nat) (k : Nat) : Nat → Nat := fun j => if j < k then 0 else kd j
theorem zkz_0 (kd : Nat → Nat) : zkz kd 0 = kd := by funext j; simp [zkz]
theorem zkz_s (kd : Nat → Nat) (k : Nat) : upd (zf (zkz kd k)) k (0 : Int32) = zf (zkz kd (k + 1)) := by
  rw [show upd (zf (zkz kd k)) k (0 : Int32) = zf (updN (zkz kd k) k 0) from zf_upd _ k 0]
  congr 1
  funext j
  unfold updN zkz
  by_cases q : j = k
  · rw [if_pos q, if_pos (by omega)]
  · rw [if_neg q]
    by_cases q2 : j < k
    · rw [if_pos q2, if_pos (by omega)]
    · rw [if_neg q2, if_neg (by omega)]
/-- the map's places -/
def zkr (kd : Nat → Nat) (ch : Nat → Nat → Nat) : Prop := ∀ r i, r < 4096 → i < 256 → kd (256 * r + i) = ch r i
theorem zkr_0 (kd : Nat → Nat) : zkr (zkz kd 1048576) (fun _ _ => 0) := fun r i hr hi => if_pos (by omega)
theorem zkr_add {kd : Nat → Nat} {ch : Nat → Nat → Nat} (h : zkr kd ch) {r ix x : Nat} (hr : r < 4096) (hi : ix < 256) : zkr (updN kd (256 * r + ix) x) (zk_add ch r ix x) := fun r' i' hr' hi' => by
  unfold updN zk_add
  by_cases q : r' = r ∧ i' = ix
  · rw [if_pos q, if_pos (by rw [q.1, q.2])]
  · rw [if_neg q, if_neg (by omega)]
    exact h r' i' hr' hi'
theorem zval_up {m t r : Nat} (h : zval m t r) : zval m (t + 1) r := by
  rcases h with h | h
  · exact Or.inl h
  · exact Or.inr ⟨h.1, by omega⟩
theorem zfin0 {f : Nat → Int32} {n v V P : Nat} (h : zS f n v 0 V P) : n = (P + 7) / 8 ∧ ∀ j, j < (P + 7) / 8 → f j = zby (V / 256 ^ j) := by
  have h1 := h.1
  exact ⟨by omega, fun j hj => h.2.2.2.1 j (by omega)⟩
theorem zfin1 {f : Nat → Int32} {n v w V P : Nat} (h : zS f n v w V P) (hw : w ≠ 0) (hw8 : w < 8) : n + 1 = (P + 7) / 8 ∧ (∀ j, j < (P + 7) / 8 → upd f n (zby v) j = zby (V / 256 ^ j)) ∧ ∀ j, vp_nar .byte (upd f n (zby v) j) = upd f n (zby v) j := by
  have h1 := h.1
  refine ⟨by omega, fun j hj => ?_, fun j => ?_⟩
  · by_cases q : j = n
    · rw [q, pk_us, h.2.1]
    · rw [pk_un q]; exact h.2.2.2.1 j (by omega)
  · by_cases q : j = n
    · rw [q, pk_us]; exact zby_nar v
    · rw [pk_un q]; exact h.2.2.2.2 j
/-- what the model's packer gives -/
def zp_mpk (ma tp rp dp wp op bp lp ep kp tn rn m n8 : Nat) (fl dn wn ba : Int32) (rw : Nat → Int32) (cB cI : ClassId) : Outcome → va_W → Prop := fun o w =>
  ∃ (f2 : Nat → Int32) (u1 u2 u3 u4 u5 : Int32) (kd : Nat → Nat), ((((ze_run m (fun j => zu (rw j)) (n8 - 1) 1 (zu (rw 0)) (2 ^ m) (m + 1) (m + 1) (2 ^ m + 2) true (fun _ _ => 0)).2 + 7) / 8) ≤ 65536 ∧ (∀ j, j < (((ze_run m (fun j => zu (rw j)) (n8 - 1) 1 (zu (rw 0)) (2 ^ m) (m + 1) (m + 1) (2 ^ m + 2) true (fun _ _ => 0)).2 + 7) / 8) → f2 j = zby ((ze_run m (fun j => zu (rw j)) (n8 - 1) 1 (zu (rw 0)) (2 ^ m) (m + 1) (m + 1) (2 ^ m + 2) true (fun _ _ => 0)).1 / 256 ^ j)) ∧ ∀ j, vp_nar .byte (f2 j) = f2 j) ∧ o = .returned none ∧ w = [(ma, .inr (5, [.int fl, .ref tp, .int (nI tn), .ref rp, .int (nI rn), .ref dp, .int dn, .ref wp, .int wn, .int ba, .ref op, .int (nI (((ze_run m (fun j => zu (rw j)) (n8 - 1) 1 (zu (rw 0)) (2 ^ m) (m + 1) (m + 1) (2 ^ m + 2) true (fun _ _ => 0)).2 + 7) / 8)), .ref bp, .ref lp, .ref ep, .int u1, .int u2, .int u3, .int u4, .int u5, .ref kp])), (wp, .inl (cB, 16384, .inl rw)), (op, .inl (cB, 65536, .inl f2)), (kp, .inl (cI, 1048576, .inl (zf kd)))]
theorem k_MO_pack2 (l : Launch) (D : va_G) (cB cI cL : ClassId) (ma tp rp dp wp op bp lp ep kp tn rn m n8 : Nat) (fl dn wn ba bb bc cw cx cf : Int32) (rw ou : Nat → Int32) (kd0 : Nat → Nat) (hm : 2 ≤ m ∧ m ≤ 8) (hn8 : 1 ≤ n8 ∧ n8 ≤ 16384) (hix : ∀ j, j < n8 → zu (rw j) < 2 ^ m) (hby : ∀ j, vp_nar .byte (ou j) = ou j) : zx_K l zB D zcl (zt cB cI cL) y_MO_pack2 b_MO_pack2 10 (none) [] 0 0 (zr 4 0 0) [.ref ma, .int (nI m), .int (nI n8)] [(ma, .inr (5, [.int fl, .ref tp, .int (nI tn), .ref rp, .int (nI rn), .ref dp, .int dn, .ref wp, .int wn, .int ba, .ref op, .int (nI 0), .ref bp, .ref lp, .ref ep, .int bb, .int bc, .int cw, .int cx, .int cf, .ref kp])), (wp, .inl (cB, 16384, .inl rw)), (op, .inl (cB, 65536, .inl ou)), (kp, .inl (cI, 1048576, .inl (zf kd0)))] (zp_mpk ma tp rp dp wp op bp lp ep kp tn rn m n8 fl dn wn ba rw cB cI) := by
  refine zx_K.mk (Nat.le_of_ble_eq_true rfl) (fun p e s mm below meth c9 C hr hlk ht hnm => ?_)
  have hp8 := zp_pow8 hm.2
  have hpm : 2 ^ m < 2 ^ (m + 1) := Nat.pow_lt_pow_right (by decide) (by omega)
  have hp4 : 4 ≤ 2 ^ m := Nat.pow_le_pow_right (n := 2) (i := 2) (by decide) hm.1
  have ending : ∀ (f : Nat → Int32) (n v wb V P b x : Nat) (fr : Bool) (kd : Nat → Nat), zS f n v wb V P → wb < 8 → ze_inv m b x fr → P + 12 < 524288 → (V + (2 ^ m + 1) * 2 ^ P, P + b) = (ze_run m (fun j => zu (rw j)) (n8 - 1) 1 (zu (rw 0)) (2 ^ m) (m + 1) (m + 1) (2 ^ m + 2) true (fun _ _ => 0)) → zx_At p l e (zr 4 0 0) s mm (([.ref ma, .int (nI m), .int (nI n8)] : List Value)).toArray below meth c9 (zx_Q below s D zcl [(ma, .inr (5, [.int fl, .ref tp, .int (nI tn), .ref rp, .int (nI rn), .ref dp, .int dn, .ref wp, .int wn, .int ba, .ref op, .int (nI 0), .ref bp, .ref lp, .ref ep, .int bb, .int bc, .int cw, .int cx, .int cf, .ref kp])), (wp, .inl (cB, 16384, .inl rw)), (op, .inl (cB, 65536, .inl ou)), (kp, .inl (cI, 1048576, .inl (zf kd0)))] 0 0 (zr 4 0 0) (zp_mpk ma tp rp dp wp op bp lp ep kp tn rn m n8 fl dn wn ba rw cB cI)) D zcl (va_A [(ma, .inr (5, [.int fl, .ref tp, .int (nI tn), .ref rp, .int (nI rn), .ref dp, .int dn, .ref wp, .int wn, .int ba, .ref op, .int (nI 0), .ref bp, .ref lp, .ref ep, .int bb, .int bc, .int cw, .int cx, .int cf, .ref kp])), (wp, .inl (cB, 16384, .inl rw)), (op, .inl (cB, 65536, .inl ou)), (kp, .inl (cI, 1048576, .inl (zf kd0)))] s.heap.size) 10 [(0, .ref ma), (1, .int (nI m)), (2, .int (nI n8)), (3, .int (nI (2 ^ m)))] [(ma, .inr (5, [.int fl, .ref tp, .int (nI tn), .ref rp, .int (nI rn), .ref dp, .int dn, .ref wp, .int wn, .int ba, .ref op, .int (nI n), .ref bp, .ref lp, .ref ep, .int (nI v), .int (nI wb), .int (nI b), .int (nI x), .int (zb fr), .ref kp])), (wp, .inl (cB, 16384, .inl rw)), (op, .inl (cB, 65536, .inl f)), (kp, .inl (cI, 1048576, .inl (zf kd)))] 0 0 259 [] := by
    intro f n v wb V P b x fr kd hz hwb hi hP hrun
    have hb := hi.1
    have h2b : 2 ^ (m + 1) ≤ 2 ^ b := Nat.pow_le_pow_right (by decide) hb.1
    have h2 : 2 ^ (m + 1) = 2 * 2 ^ m := by rw [Nat.pow_succ]; omega
    have e1 : (ze_run m (fun j => zu (rw j)) (n8 - 1) 1 (zu (rw 0)) (2 ^ m) (m + 1) (m + 1) (2 ^ m + 2) true (fun _ _ => 0)).1 = V + (2 ^ m + 1) * 2 ^ P := by rw [← hrun]
    have e2 : (ze_run m (fun j => zu (rw j)) (n8 - 1) 1 (zu (rw 0)) (2 ^ m) (m + 1) (m + 1) (2 ^ m + 2) true (fun _ _ => 0)).2 = P + b := by rw [← hrun]
    refine sg_MP_259 C hz hwb (by omega) hb.2 (by omega) (fun f2 n2 v2 w2 h => by have := h.1.1; omega) hr hlk (nI_1 _) (fun f2 n2 v2 w2 h h0 => ?_) (fun f2 n2 v2 w2 h h0 => ?_)
    · subst h0
      have q := zfin0 h.1
      refine ⟨f2, nI v2, nI 0, nI b, nI x, zb fr, kd, ⟨by rw [e2]; omega, by rw [e1, e2]; exact q.2, h.1.2.2.2.2⟩, rfl, ?_⟩
      rw [e2, ← q.1]
    · have q := zfin1 h.1 h0 h.2
      refine ⟨_, nI 0, nI 0, nI b, nI x, zb fr, kd, ⟨by rw [e2]; omega, by rw [e1, e2]; exact q.2.1, q.2.2⟩, rfl, ?_⟩
      rw [e2, ← q.1]
  have clr2 : ∀ (d k i ix : Nat) (kd : Nat → Nat) (n2 v2 w2 : Nat) (f2 : Nat → Int32), k + d = 1048576 → (∀ kd2, zkr kd2 (fun _ _ => 0) → zx_At p l e (zr 4 0 0) s mm (([.ref ma, .int (nI m), .int (nI n8)] : List Value)).toArray below meth c9 (zx_Q below s D zcl [(ma, .inr (5, [.int fl, .ref tp, .int (nI tn), .ref rp, .int (nI rn), .ref dp, .int dn, .ref wp, .int wn, .int ba, .ref op, .int (nI 0), .ref bp, .ref lp, .ref ep, .int bb, .int bc, .int cw, .int cx, .int cf, .ref kp])), (wp, .inl (cB, 16384, .inl rw)), (op, .inl (cB, 65536, .inl ou)), (kp, .inl (cI, 1048576, .inl (zf kd0)))] 0 0 (zr 4 0 0) (zp_mpk ma tp rp dp wp op bp lp ep kp tn rn m n8 fl dn wn ba rw cB cI)) D zcl (va_A [(ma, .inr (5, [.int fl, .ref tp, .int (nI tn), .ref rp, .int (nI rn), .ref dp, .int dn, .ref wp, .int wn, .int ba, .ref op, .int (nI 0), .ref bp, .ref lp, .ref ep, .int bb, .int bc, .int cw, .int cx, .int cf, .ref kp])), (wp, .inl (cB, 16384, .inl rw)), (op, .inl (cB, 65536, .inl ou)), (kp, .inl (cI, 1048576, .inl (zf kd0)))] s.heap.size) 10 [(0, .ref ma), (1, .int (nI m)), (2, .int (nI n8)), (3, .int (nI (2 ^ m))), (4, .int (nI (2 ^ m + 2))), (6, .int (0 : Int32)), (7, .int (nI i)), (8, .int (nI ix))] [(ma, .inr (5, [.int fl, .ref tp, .int (nI tn), .ref rp, .int (nI rn), .ref dp, .int dn, .ref wp, .int wn, .int ba, .ref op, .int (nI n2), .ref bp, .ref lp, .ref ep, .int (nI v2), .int (nI w2), .int (nI (m + 1)), .int (nI (2 ^ m + 2)), .int (zb true), .ref kp])), (wp, .inl (cB, 16384, .inl rw)), (op, .inl (cB, 65536, .inl f2)), (kp, .inl (cI, 1048576, .inl (zf kd2)))] 0 0 224 []) → zx_At p l e (zr 4 0 0) s mm (([.ref ma, .int (nI m), .int (nI n8)] : List Value)).toArray below meth c9 (zx_Q below s D zcl [(ma, .inr (5, [.int fl, .ref tp, .int (nI tn), .ref rp, .int (nI rn), .ref dp, .int dn, .ref wp, .int wn, .int ba, .ref op, .int (nI 0), .ref bp, .ref lp, .ref ep, .int bb, .int bc, .int cw, .int cx, .int cf, .ref kp])), (wp, .inl (cB, 16384, .inl rw)), (op, .inl (cB, 65536, .inl ou)), (kp, .inl (cI, 1048576, .inl (zf kd0)))] 0 0 (zr 4 0 0) (zp_mpk ma tp rp dp wp op bp lp ep kp tn rn m n8 fl dn wn ba rw cB cI)) D zcl (va_A [(ma, .inr (5, [.int fl, .ref tp, .int (nI tn), .ref rp, .int (nI rn), .ref dp, .int dn, .ref wp, .int wn, .int ba, .ref op, .int (nI 0), .ref bp, .ref lp, .ref ep, .int bb, .int bc, .int cw, .int cx, .int cf, .ref kp])), (wp, .inl (cB, 16384, .inl rw)), (op, .inl (cB, 65536, .inl ou)), (kp, .inl (cI, 1048576, .inl (zf kd0)))] s.heap.size) 10 [(0, .ref ma), (1, .int (nI m)), (2, .int (nI n8)), (3, .int (nI (2 ^ m))), (7, .int (nI i)), (8, .int (nI ix)), (9, .int (nI k))] [(ma, .inr (5, [.int fl, .ref tp, .int (nI tn), .ref rp, .int (nI rn), .ref dp, .int dn, .ref wp, .int wn, .int ba, .ref op, .int (nI n2), .ref bp, .ref lp, .ref ep, .int (nI v2), .int (nI w2), .int (nI (m + 1)), .int (nI (2 ^ m + 2)), .int (zb true), .ref kp])), (wp, .inl (cB, 16384, .inl rw)), (op, .inl (cB, 65536, .inl f2)), (kp, .inl (cI, 1048576, .inl (zf (zkz kd k))))] 0 0 158 [] := by
    intro d
    induction d with
    | zero =>
      intro k i ix kd n2 v2 w2 f2 hk nx
      have hk2 : k = 1048576 := by omega
      have key : (1048576 : Int32) ≤ nI k := by rw [hk2]; decide
      refine sg_MP_158 C (fun _ => nI_add _ 2) (fun _ => nx _ (by rw [hk2]; exact zkr_0 kd)) (fun z => absurd key z) (fun z => absurd key z) (fun z => absurd key z)
    | succ d ih =>
      intro k i ix kd n2 v2 w2 f2 hk nx
      have nk : ¬ (1048576 : Int32) ≤ nI k := fun z => absurd ((zp_ge (k := 1048576) rfl (by omega) (by decide)).mp z) (by omega)
      refine sg_MP_158 C (fun z => absurd z nk) (fun z => absurd z nk) (fun _ => ⟨rfl, by omega⟩) (fun _ => nI_1 k) (fun _ => ?_)
      rw [zkz_s]
      exact ih (k + 1) i ix kd n2 v2 w2 f2 (by omega) nx
  have loop : ∀ (d i r V P b x : Nat) (fr : Bool) (ch : Nat → Nat → Nat) (kd : Nat → Nat) (f : Nat → Int32) (n v wb : Nat), i + d = n8 → ze_inv m b x fr → zkr kd ch → (∀ q i', q < 4096 → i' < 256 → ch q i' ≠ 0 → zval m (ze_top x fr) (ch q i')) → zval m (ze_top x fr) r → zS f n v wb V P → wb < 8 → P + 24 * (d + 2) ≤ 400000 → ze_run m (fun j => zu (rw j)) d i r V P b x fr ch = (ze_run m (fun j => zu (rw j)) (n8 - 1) 1 (zu (rw 0)) (2 ^ m) (m + 1) (m + 1) (2 ^ m + 2) true (fun _ _ => 0)) → zx_At p l e (zr 4 0 0) s mm (([.ref ma, .int (nI m), .int (nI n8)] : List Value)).toArray below meth c9 (zx_Q below s D zcl [(ma, .inr (5, [.int fl, .ref tp, .int (nI tn), .ref rp, .int (nI rn), .ref dp, .int dn, .ref wp, .int wn, .int ba, .ref op, .int (nI 0), .ref bp, .ref lp, .ref ep, .int bb, .int bc, .int cw, .int cx, .int cf, .ref kp])), (wp, .inl (cB, 16384, .inl rw)), (op, .inl (cB, 65536, .inl ou)), (kp, .inl (cI, 1048576, .inl (zf kd0)))] 0 0 (zr 4 0 0) (zp_mpk ma tp rp dp wp op bp lp ep kp tn rn m n8 fl dn wn ba rw cB cI)) D zcl (va_A [(ma, .inr (5, [.int fl, .ref tp, .int (nI tn), .ref rp, .int (nI rn), .ref dp, .int dn, .ref wp, .int wn, .int ba, .ref op, .int (nI 0), .ref bp, .ref lp, .ref ep, .int bb, .int bc, .int cw, .int cx, .int cf, .ref kp])), (wp, .inl (cB, 16384, .inl rw)), (op, .inl (cB, 65536, .inl ou)), (kp, .inl (cI, 1048576, .inl (zf kd0)))] s.heap.size) 10 [(0, .ref ma), (1, .int (nI m)), (2, .int (nI n8)), (3, .int (nI (2 ^ m))), (4, .int (nI (ze_top x fr))), (5, .int (nI r)), (6, .int (zb (decide (ze_top x fr = 4096)))), (7, .int (nI i))] [(ma, .inr (5, [.int fl, .ref tp, .int (nI tn), .ref rp, .int (nI rn), .ref dp, .int dn, .ref wp, .int wn, .int ba, .ref op, .int (nI n), .ref bp, .ref lp, .ref ep, .int (nI v), .int (nI wb), .int (nI b), .int (nI x), .int (zb fr), .ref kp])), (wp, .inl (cB, 16384, .inl rw)), (op, .inl (cB, 65536, .inl f)), (kp, .inl (cI, 1048576, .inl (zf kd)))] 0 0 75 [] := by
    intro d
    induction d with
    | zero =>
      intro i r V P b x fr ch kd f n v wb hd hi hkr hcv hr0 hz hwb hP hrun
      have hi2 := hi
      obtain ⟨hb, hx, hxb, hfr⟩ := hi2
      have htop : ze_top x fr ≤ 4096 ∧ ze_top x fr ≤ x + 1 := by
        unfold ze_top
        by_cases q : fr = true
        · rw [if_pos q]; omega
        · rw [if_neg q]; omega
      have hzx : zn_x x fr = ze_top x fr := zx_top (by omega)
      have h2b : 2 ^ (m + 1) ≤ 2 ^ b := Nat.pow_le_pow_right (by decide) hb.1
      have hzb := zn_b_le (x := x) (fr := fr) hb.2
      have hc2 : 2 ^ m < 2 ^ (zn_b b x fr) := Nat.pow_lt_pow_right (by decide) (by omega)
      have hrb : r < 2 ^ b := by
        rcases hr0 with q | q
        · omega
        · omega
      have row0 : ze_top x fr ≠ 4096 → ze_row m r V P b x fr = (V + r * 2 ^ P, P + b, zn_b b x fr, zn_x x fr, false) := fun q => if_neg (by omega)
      have row1 : ze_top x fr = 4096 → ze_row m r V P b x fr = (V + r * 2 ^ P + 2 ^ m * 2 ^ (P + b), P + b + zn_b b x fr, m + 1, 2 ^ m + 2, true) := fun q => if_pos (by omega)
      have hinv := ze_inv_row hm hi r V P
      have key : nI n8 ≤ nI i := by rw [show i = n8 by omega]; exact Int32.le_refl _
      rw [ze_run] at hrun
      have a := fun {q : Prop} (z : ¬ nI n8 ≤ nI i) => (absurd key z : q)
      refine sg_MP_75 C (fun _ => ?_) (fun z => a z) (fun z => a z) (fun z => a z) (fun z => a z) (fun z => a z) (fun z => a z) (fun z => a z) (fun z => a z) (fun z => a z) (fun z => a z) (fun z => a z) (fun z => a z) (fun z => a z)
      refine sg_MP_234 C hz hwb hrb (by omega) hm hi hc2 hzb.2 (by omega) (fun f2 n2 v2 w2 h h0 => ?_) (fun f2 n2 v2 w2 h h0 f3 n3 v3 w3 h3 => ?_)
      · have q := row0 (zb_d.mp h0)
        rw [q] at hrun hinv
        exact ending f2 n2 v2 w2 _ _ _ _ false kd h.1 h.2 hinv (by omega) hrun
      · have q := row1 (Classical.byContradiction fun y => h0 (zb_d.mpr y))
        rw [q] at hrun hinv
        exact ending f3 n3 v3 w3 _ _ _ _ true kd h3.1 h3.2 hinv (by omega) hrun
    | succ d ih =>
      intro i r V P b x fr ch kd f n v wb hd hi hkr hcv hr0 hz hwb hP hrun
      have hi2 := hi
      obtain ⟨hb, hx, hxb, hfr⟩ := hi2
      have htop : ze_top x fr ≤ 4096 ∧ ze_top x fr ≤ x + 1 := by
        unfold ze_top
        by_cases q : fr = true
        · rw [if_pos q]; omega
        · rw [if_neg q]; omega
      have hzx : zn_x x fr = ze_top x fr := zx_top (by omega)
      have h2b : 2 ^ (m + 1) ≤ 2 ^ b := Nat.pow_le_pow_right (by decide) hb.1
      have hzb := zn_b_le (x := x) (fr := fr) hb.2
      have hc2 : 2 ^ m < 2 ^ (zn_b b x fr) := Nat.pow_lt_pow_right (by decide) (by omega)
      have hrb : r < 2 ^ b := by
        rcases hr0 with q | q
        · omega
        · omega
      have row0 : ze_top x fr ≠ 4096 → ze_row m r V P b x fr = (V + r * 2 ^ P, P + b, zn_b b x fr, zn_x x fr, false) := fun q => if_neg (by omega)
      have row1 : ze_top x fr = 4096 → ze_row m r V P b x fr = (V + r * 2 ^ P + 2 ^ m * 2 ^ (P + b), P + b + zn_b b x fr, m + 1, 2 ^ m + 2, true) := fun q => if_pos (by omega)
      have hinv := ze_inv_row hm hi r V P
      have hixi := hix i (by omega)
      have hr4 : r < 4096 := by
        rcases hr0 with q | q
        · omega
        · omega
      have nk : ¬ nI n8 ≤ nI i := fun z => absurd ((nI_leI (by omega) (by omega)).mp z) (by omega)
      have hk : kd (256 * r + zu (rw i)) = ch r (zu (rw i)) := hkr r _ hr4 (by omega)
      have hch : ch r (zu (rw i)) < 4096 := by
        by_cases q : ch r (zu (rw i)) = 0
        · omega
        · rcases hcv r _ hr4 (by omega) q with q2 | q2
          · omega
          · omega
      have kk : nI (kd (256 * r + zu (rw i))) = 0 ↔ ch r (zu (rw i)) = 0 := by rw [hk]; exact zp_eq (k := 0) rfl (by omega) (by decide)
      refine sg_MP_75 C (fun z => absurd z nk) (fun _ => ⟨rfl, by omega⟩) (fun _ => zu_and _) (fun _ => pk_mul 256 r) (fun _ => nI_add _ _) (fun _ => ⟨rfl, by omega⟩) (fun _ => rfl) (fun _ z => ?_) (fun _ _ => pk_mul 256 r) (fun _ _ => nI_add _ _) (fun _ _ => ⟨rfl, by omega⟩) (fun _ _ => rfl) (fun _ _ => nI_1 i) (fun _ z => ?_)
      · have z0 := kk.mp z
        rw [ze_run, if_pos z0] at hrun
        refine sg_MP_130 C hz hwb hrb (by omega) hm hi hc2 hzb.2 (by omega) (fun _ _ _ _ _ _ => pk_mul 256 r) (fun _ _ _ _ _ _ => nI_add _ _) (fun _ _ _ _ _ _ => ⟨rfl, by omega⟩) (fun _ _ _ _ _ _ _ => nI_1 _) (fun f2 n2 v2 w2 h h0 h5 => ?_) (fun _ _ _ _ _ _ _ => nI_1 _) (fun f2 n2 v2 w2 h h0 h5 => ?_) (fun f2 n2 v2 w2 h h0 f3 n3 v3 w3 h3 => ?_)
        · have q := row0 (zb_d.mp h0)
          rw [q] at hrun hinv
          rw [zf_upd]
          refine sg_MP_224 C (nI_1 i) ?_
          have et : ze_top (zn_x x fr) false = ze_top x fr + 1 := by rw [hzx]; exact if_neg (by decide)
          have hl := ih (i + 1) (zu (rw i)) _ _ _ _ false (zk_ch false ch r (zu (rw i)) (zn_x x fr)) (updN kd (256 * r + zu (rw i)) (ze_top x fr)) f2 n2 v2 w2 (by omega) hinv (by rw [← hzx]; exact zkr_add hkr hr4 (by omega)) (by
            intro q9 i9 g1 g2 g3
            show zval m (ze_top (zn_x x fr) false) _
            rw [et]
            by_cases y : q9 = r ∧ i9 = zu (rw i)
            · have e9 : zk_ch false ch r (zu (rw i)) (zn_x x fr) q9 i9 = zn_x x fr := if_pos y
              rw [e9, hzx]
              have := zn_x_le (x := x) (fr := fr) (by omega)
              exact Or.inr ⟨by omega, by omega⟩
            · have e9 : zk_ch false ch r (zu (rw i)) (zn_x x fr) q9 i9 = ch q9 i9 := if_neg y
              rw [e9]
              rw [e9] at g3
              exact zval_up (hcv q9 i9 g1 g2 g3)) (Or.inl hixi) h.1 h.2 (by show _ + _ + _ ≤ _; omega) hrun
          have hl2 : zx_At p l e (zr 4 0 0) s mm (([.ref ma, .int (nI m), .int (nI n8)] : List Value)).toArray below meth c9 (zx_Q below s D zcl [(ma, .inr (5, [.int fl, .ref tp, .int (nI tn), .ref rp, .int (nI rn), .ref dp, .int dn, .ref wp, .int wn, .int ba, .ref op, .int (nI 0), .ref bp, .ref lp, .ref ep, .int bb, .int bc, .int cw, .int cx, .int cf, .ref kp])), (wp, .inl (cB, 16384, .inl rw)), (op, .inl (cB, 65536, .inl ou)), (kp, .inl (cI, 1048576, .inl (zf kd0)))] 0 0 (zr 4 0 0) (zp_mpk ma tp rp dp wp op bp lp ep kp tn rn m n8 fl dn wn ba rw cB cI)) D zcl (va_A [(ma, .inr (5, [.int fl, .ref tp, .int (nI tn), .ref rp, .int (nI rn), .ref dp, .int dn, .ref wp, .int wn, .int ba, .ref op, .int (nI 0), .ref bp, .ref lp, .ref ep, .int bb, .int bc, .int cw, .int cx, .int cf, .ref kp])), (wp, .inl (cB, 16384, .inl rw)), (op, .inl (cB, 65536, .inl ou)), (kp, .inl (cI, 1048576, .inl (zf kd0)))] s.heap.size) 10 [(0, .ref ma), (1, .int (nI m)), (2, .int (nI n8)), (3, .int (nI (2 ^ m))), (4, .int (nI (ze_top (zn_x x fr) false))), (5, .int (nI (zu (rw i)))), (6, .int (zb (decide (ze_top (zn_x x fr) false = 4096)))), (7, .int (nI (i + 1)))] [(ma, .inr (5, [.int fl, .ref tp, .int (nI tn), .ref rp, .int (nI rn), .ref dp, .int dn, .ref wp, .int wn, .int ba, .ref op, .int (nI n2), .ref bp, .ref lp, .ref ep, .int (nI v2), .int (nI w2), .int (nI (zn_b b x fr)), .int (nI (zn_x x fr)), .int (zb false), .ref kp])), (wp, .inl (cB, 16384, .inl rw)), (op, .inl (cB, 65536, .inl f2)), (kp, .inl (cI, 1048576, .inl (zf (updN kd (256 * r + zu (rw i)) (ze_top x fr)))))] 0 0 75 [] := hl
          have ed : decide (ze_top (zn_x x fr) false = 4096) = false := decide_eq_false (by
            have y : nI (ze_top x fr) = (4095 : Int32) ↔ ze_top x fr = 4095 := zp_eq (k := 4095) rfl (by omega) (by decide)
            have := mt y.mpr h5
            omega)
          rw [ed, et] at hl2
          exact hl2
        · have q := row0 (zb_d.mp h0)
          rw [q] at hrun hinv
          rw [zf_upd]
          refine sg_MP_224 C (nI_1 i) ?_
          have et : ze_top (zn_x x fr) false = ze_top x fr + 1 := by rw [hzx]; exact if_neg (by decide)
          have hl := ih (i + 1) (zu (rw i)) _ _ _ _ false (zk_ch false ch r (zu (rw i)) (zn_x x fr)) (updN kd (256 * r + zu (rw i)) (ze_top x fr)) f2 n2 v2 w2 (by omega) hinv (by rw [← hzx]; exact zkr_add hkr hr4 (by omega)) (by
            intro q9 i9 g1 g2 g3
            show zval m (ze_top (zn_x x fr) false) _
            rw [et]
            by_cases y : q9 = r ∧ i9 = zu (rw i)
            · have e9 : zk_ch false ch r (zu (rw i)) (zn_x x fr) q9 i9 = zn_x x fr := if_pos y
              rw [e9, hzx]
              have := zn_x_le (x := x) (fr := fr) (by omega)
              exact Or.inr ⟨by omega, by omega⟩
            · have e9 : zk_ch false ch r (zu (rw i)) (zn_x x fr) q9 i9 = ch q9 i9 := if_neg y
              rw [e9]
              rw [e9] at g3
              exact zval_up (hcv q9 i9 g1 g2 g3)) (Or.inl hixi) h.1 h.2 (by show _ + _ + _ ≤ _; omega) hrun
          have hl2 : zx_At p l e (zr 4 0 0) s mm (([.ref ma, .int (nI m), .int (nI n8)] : List Value)).toArray below meth c9 (zx_Q below s D zcl [(ma, .inr (5, [.int fl, .ref tp, .int (nI tn), .ref rp, .int (nI rn), .ref dp, .int dn, .ref wp, .int wn, .int ba, .ref op, .int (nI 0), .ref bp, .ref lp, .ref ep, .int bb, .int bc, .int cw, .int cx, .int cf, .ref kp])), (wp, .inl (cB, 16384, .inl rw)), (op, .inl (cB, 65536, .inl ou)), (kp, .inl (cI, 1048576, .inl (zf kd0)))] 0 0 (zr 4 0 0) (zp_mpk ma tp rp dp wp op bp lp ep kp tn rn m n8 fl dn wn ba rw cB cI)) D zcl (va_A [(ma, .inr (5, [.int fl, .ref tp, .int (nI tn), .ref rp, .int (nI rn), .ref dp, .int dn, .ref wp, .int wn, .int ba, .ref op, .int (nI 0), .ref bp, .ref lp, .ref ep, .int bb, .int bc, .int cw, .int cx, .int cf, .ref kp])), (wp, .inl (cB, 16384, .inl rw)), (op, .inl (cB, 65536, .inl ou)), (kp, .inl (cI, 1048576, .inl (zf kd0)))] s.heap.size) 10 [(0, .ref ma), (1, .int (nI m)), (2, .int (nI n8)), (3, .int (nI (2 ^ m))), (4, .int (nI (ze_top (zn_x x fr) false))), (5, .int (nI (zu (rw i)))), (6, .int (zb (decide (ze_top (zn_x x fr) false = 4096)))), (7, .int (nI (i + 1)))] [(ma, .inr (5, [.int fl, .ref tp, .int (nI tn), .ref rp, .int (nI rn), .ref dp, .int dn, .ref wp, .int wn, .int ba, .ref op, .int (nI n2), .ref bp, .ref lp, .ref ep, .int (nI v2), .int (nI w2), .int (nI (zn_b b x fr)), .int (nI (zn_x x fr)), .int (zb false), .ref kp])), (wp, .inl (cB, 16384, .inl rw)), (op, .inl (cB, 65536, .inl f2)), (kp, .inl (cI, 1048576, .inl (zf (updN kd (256 * r + zu (rw i)) (ze_top x fr)))))] 0 0 75 [] := hl
          have ed : decide (ze_top (zn_x x fr) false = 4096) = true := decide_eq_true (by
            have y : nI (ze_top x fr) = (4095 : Int32) ↔ ze_top x fr = 4095 := zp_eq (k := 4095) rfl (by omega) (by decide)
            have := y.mp h5
            omega)
          rw [ed, et] at hl2
          exact hl2
        · have q := row1 (Classical.byContradiction fun y => h0 (zb_d.mpr y))
          rw [q] at hrun hinv
          have h1 := clr2 1048576 0 i (zu (rw i)) kd n3 v3 w3 f3 (by omega) (fun kd2 hk2 => by
            refine sg_MP_224 C (nI_1 i) ?_
            have hl := ih (i + 1) (zu (rw i)) _ _ _ _ true (fun _ _ => 0) kd2 f3 n3 v3 w3 (by omega) hinv hk2 (fun _ _ _ _ h => absurd rfl h) (Or.inl hixi) h3.1 h3.2 (by show _ + _ + _ + _ ≤ _; omega) hrun
            have et : ze_top (2 ^ m + 2) true = 2 ^ m + 2 := if_pos rfl
            have ed : decide (ze_top (2 ^ m + 2) true = 4096) = false := decide_eq_false (by omega)
            have hl2 : zx_At p l e (zr 4 0 0) s mm (([.ref ma, .int (nI m), .int (nI n8)] : List Value)).toArray below meth c9 (zx_Q below s D zcl [(ma, .inr (5, [.int fl, .ref tp, .int (nI tn), .ref rp, .int (nI rn), .ref dp, .int dn, .ref wp, .int wn, .int ba, .ref op, .int (nI 0), .ref bp, .ref lp, .ref ep, .int bb, .int bc, .int cw, .int cx, .int cf, .ref kp])), (wp, .inl (cB, 16384, .inl rw)), (op, .inl (cB, 65536, .inl ou)), (kp, .inl (cI, 1048576, .inl (zf kd0)))] 0 0 (zr 4 0 0) (zp_mpk ma tp rp dp wp op bp lp ep kp tn rn m n8 fl dn wn ba rw cB cI)) D zcl (va_A [(ma, .inr (5, [.int fl, .ref tp, .int (nI tn), .ref rp, .int (nI rn), .ref dp, .int dn, .ref wp, .int wn, .int ba, .ref op, .int (nI 0), .ref bp, .ref lp, .ref ep, .int bb, .int bc, .int cw, .int cx, .int cf, .ref kp])), (wp, .inl (cB, 16384, .inl rw)), (op, .inl (cB, 65536, .inl ou)), (kp, .inl (cI, 1048576, .inl (zf kd0)))] s.heap.size) 10 [(0, .ref ma), (1, .int (nI m)), (2, .int (nI n8)), (3, .int (nI (2 ^ m))), (4, .int (nI (ze_top (2 ^ m + 2) true))), (5, .int (nI (zu (rw i)))), (6, .int (zb (decide (ze_top (2 ^ m + 2) true = 4096)))), (7, .int (nI (i + 1)))] [(ma, .inr (5, [.int fl, .ref tp, .int (nI tn), .ref rp, .int (nI rn), .ref dp, .int dn, .ref wp, .int wn, .int ba, .ref op, .int (nI n3), .ref bp, .ref lp, .ref ep, .int (nI v3), .int (nI w3), .int (nI (m + 1)), .int (nI (2 ^ m + 2)), .int (zb true), .ref kp])), (wp, .inl (cB, 16384, .inl rw)), (op, .inl (cB, 65536, .inl f3)), (kp, .inl (cI, 1048576, .inl (zf kd2)))] 0 0 75 [] := hl
            rw [ed, et] at hl2
            exact hl2)
          rw [zkz_0] at h1
          exact h1
      · have z0 := mt kk.mpr z
        rw [ze_run, if_neg z0] at hrun
        rw [hk]
        exact ih (i + 1) _ V P b x fr ch kd f n v wb (by omega) hi hkr hcv (hcv r _ hr4 (by omega) z0) hz hwb (by omega) hrun
  have clr : ∀ (d k : Nat) (kd : Nat → Nat) (n2 v2 w2 : Nat) (f2 : Nat → Int32), k + d = 1048576 → (∀ kd2, zkr kd2 (fun _ _ => 0) → zx_At p l e (zr 4 0 0) s mm (([.ref ma, .int (nI m), .int (nI n8)] : List Value)).toArray below meth c9 (zx_Q below s D zcl [(ma, .inr (5, [.int fl, .ref tp, .int (nI tn), .ref rp, .int (nI rn), .ref dp, .int dn, .ref wp, .int wn, .int ba, .ref op, .int (nI 0), .ref bp, .ref lp, .ref ep, .int bb, .int bc, .int cw, .int cx, .int cf, .ref kp])), (wp, .inl (cB, 16384, .inl rw)), (op, .inl (cB, 65536, .inl ou)), (kp, .inl (cI, 1048576, .inl (zf kd0)))] 0 0 (zr 4 0 0) (zp_mpk ma tp rp dp wp op bp lp ep kp tn rn m n8 fl dn wn ba rw cB cI)) D zcl (va_A [(ma, .inr (5, [.int fl, .ref tp, .int (nI tn), .ref rp, .int (nI rn), .ref dp, .int dn, .ref wp, .int wn, .int ba, .ref op, .int (nI 0), .ref bp, .ref lp, .ref ep, .int bb, .int bc, .int cw, .int cx, .int cf, .ref kp])), (wp, .inl (cB, 16384, .inl rw)), (op, .inl (cB, 65536, .inl ou)), (kp, .inl (cI, 1048576, .inl (zf kd0)))] s.heap.size) 10 [(0, .ref ma), (1, .int (nI m)), (2, .int (nI n8)), (3, .int (nI (2 ^ m)))] [(ma, .inr (5, [.int fl, .ref tp, .int (nI tn), .ref rp, .int (nI rn), .ref dp, .int dn, .ref wp, .int wn, .int ba, .ref op, .int (nI n2), .ref bp, .ref lp, .ref ep, .int (nI v2), .int (nI w2), .int (nI (m + 1)), .int (nI (2 ^ m + 2)), .int (zb true), .ref kp])), (wp, .inl (cB, 16384, .inl rw)), (op, .inl (cB, 65536, .inl f2)), (kp, .inl (cI, 1048576, .inl (zf kd2)))] 0 0 52 []) → zx_At p l e (zr 4 0 0) s mm (([.ref ma, .int (nI m), .int (nI n8)] : List Value)).toArray below meth c9 (zx_Q below s D zcl [(ma, .inr (5, [.int fl, .ref tp, .int (nI tn), .ref rp, .int (nI rn), .ref dp, .int dn, .ref wp, .int wn, .int ba, .ref op, .int (nI 0), .ref bp, .ref lp, .ref ep, .int bb, .int bc, .int cw, .int cx, .int cf, .ref kp])), (wp, .inl (cB, 16384, .inl rw)), (op, .inl (cB, 65536, .inl ou)), (kp, .inl (cI, 1048576, .inl (zf kd0)))] 0 0 (zr 4 0 0) (zp_mpk ma tp rp dp wp op bp lp ep kp tn rn m n8 fl dn wn ba rw cB cI)) D zcl (va_A [(ma, .inr (5, [.int fl, .ref tp, .int (nI tn), .ref rp, .int (nI rn), .ref dp, .int dn, .ref wp, .int wn, .int ba, .ref op, .int (nI 0), .ref bp, .ref lp, .ref ep, .int bb, .int bc, .int cw, .int cx, .int cf, .ref kp])), (wp, .inl (cB, 16384, .inl rw)), (op, .inl (cB, 65536, .inl ou)), (kp, .inl (cI, 1048576, .inl (zf kd0)))] s.heap.size) 10 [(0, .ref ma), (1, .int (nI m)), (2, .int (nI n8)), (3, .int (nI (2 ^ m))), (4, .int (nI k))] [(ma, .inr (5, [.int fl, .ref tp, .int (nI tn), .ref rp, .int (nI rn), .ref dp, .int dn, .ref wp, .int wn, .int ba, .ref op, .int (nI n2), .ref bp, .ref lp, .ref ep, .int (nI v2), .int (nI w2), .int (nI (m + 1)), .int (nI (2 ^ m + 2)), .int (zb true), .ref kp])), (wp, .inl (cB, 16384, .inl rw)), (op, .inl (cB, 65536, .inl f2)), (kp, .inl (cI, 1048576, .inl (zf (zkz kd k))))] 0 0 31 [] := by
    intro d
    induction d with
    | zero =>
      intro k kd n2 v2 w2 f2 hk nx
      have hk2 : k = 1048576 := by omega
      have key : (1048576 : Int32) ≤ nI k := by rw [hk2]; decide
      refine sg_MP_31 C (fun _ => nx _ (by rw [hk2]; exact zkr_0 kd)) (fun z => absurd key z) (fun z => absurd key z) (fun z => absurd key z)
    | succ d ih =>
      intro k kd n2 v2 w2 f2 hk nx
      have nk : ¬ (1048576 : Int32) ≤ nI k := fun z => absurd ((zp_ge (k := 1048576) rfl (by omega) (by decide)).mp z) (by omega)
      refine sg_MP_31 C (fun z => absurd z nk) (fun _ => ⟨rfl, by omega⟩) (fun _ => nI_1 k) (fun _ => ?_)
      rw [zkz_s]
      exact ih (k + 1) kd n2 v2 w2 f2 (by omega) nx
  refine sg_MP_0 C hm (zS_0 hby) hpm (by omega) (by omega) (zp_shl1 m (by omega)) (fun f2 n2 v2 w2 hz => ?_)
  have hz2 := hz.1
  rw [Nat.pow_zero, Nat.mul_one, Nat.zero_add, Nat.zero_add] at hz2
  have h0 := clr 1048576 0 kd0 n2 v2 w2 f2 (by omega) (fun kd2 hk2 => by
    refine sg_MP_52 C (nI_add _ 2) ⟨rfl, by decide⟩ (zu_and _) ?_
    have hl := loop (n8 - 1) 1 (zu (rw 0)) (2 ^ m) (m + 1) (m + 1) (2 ^ m + 2) true (fun _ _ => 0) kd2 f2 n2 v2 w2 (by omega) (ze_inv_new hm) hk2 (fun _ _ _ _ h => absurd rfl h) (Or.inl (hix 0 (by omega))) hz2 hz.2 (by omega) rfl
    have et : ze_top (2 ^ m + 2) true = 2 ^ m + 2 := if_pos rfl
    rw [et, show decide (2 ^ m + 2 = 4096) = false from decide_eq_false (by omega)] at hl
    exact hl)
  rw [zkz_0] at h0
  exact h0
