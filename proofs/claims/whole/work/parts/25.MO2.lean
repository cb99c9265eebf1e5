theorem zi8 {x y : Int32} (h : x.toBitVec.toNat % 256 = y.toBitVec.toNat % 256) : x.toInt8.toInt32 = y.toInt8.toInt32 := by
  congr 1
  apply Int8.toBitVec_inj.mp
  show x.toBitVec.signExtend 8 = y.toBitVec.signExtend 8
  rw [BitVec.signExtend_eq_setWidth_of_le _ (by decide), BitVec.signExtend_eq_setWidth_of_le _ (by decide)]
  apply BitVec.eq_of_toNat_eq
  rw [BitVec.toNat_setWidth, BitVec.toNat_setWidth]
  exact h
theorem zp_low (a s : Int32) (k j : Nat) (hs : (s.toBitVec.smod 32).toNat = k) (hk : k + j ≤ 32) : (a >>> s).toBitVec.toNat % 2 ^ j = a.toBitVec.toNat / 2 ^ k % 2 ^ j := by
  apply Nat.eq_of_testBit_eq
  intro i
  rw [Nat.testBit_mod_two_pow, Nat.testBit_mod_two_pow, Nat.testBit_div_two_pow]
  by_cases h : i < j
  · have e : (a >>> s).toBitVec.toNat.testBit i = (a.toBitVec.sshiftRight (s.toBitVec.smod 32).toNat).getLsbD i := rfl
    rw [e, hs, BitVec.getLsbD_sshiftRight]
    have h1 : decide (32 ≤ i) = false := decide_eq_false (by omega)
    rw [h1, if_pos (by omega)]
    simp [h, BitVec.getLsbD, Nat.add_comm]
  · simp [h]
theorem zs31 : ∀ k, k < 32 → ((nI k &&& 31).toBitVec.smod 32).toNat = k := by decide +kernel
theorem zq_sar (w : Int32) {k : Nat} (hk : k < 4) : (w >>> (nI (24 - 8 * k) &&& 31)).toInt8.toInt32 = zq w k := by
  refine zi8 ?_
  rw [zp_low w _ (24 - 8 * k) 8 (zs31 _ (by omega)) (by omega)]
  have h : w.toBitVec.toNat / 2 ^ (24 - 8 * k) < 2 ^ 32 := Nat.lt_of_le_of_lt (Nat.div_le_self _ _) w.toBitVec.isLt
  rw [pk_tn h]
theorem zmod2 (N s : Nat) (h : s < 8) : N % 256 / 2 ^ s % 2 = N / 2 ^ s % 2 := by
  rcases (show s = 0 ∨ s = 1 ∨ s = 2 ∨ s = 3 ∨ s = 4 ∨ s = 5 ∨ s = 6 ∨ s = 7 by omega) with rfl | rfl | rfl | rfl | rfl | rfl | rfl | rfl <;> omega
theorem zbit (y : Int32) {k : Nat} (hk : k < 8) : (y >>> (nI k &&& 31)) &&& 1 = nI (zu y / 2 ^ k % 2) := by
  rw [pk_and _ 1 (by decide), zp_low y _ k 1 (zs31 _ (by omega)) (by omega)]
  unfold zu
  rw [zmod2 _ _ hk]
theorem zbitN {f : Nat → Int32} {n p : Nat} (h : p < 8 * n) : zu (f (p / 8)) / 2 ^ (p % 8) % 2 = zN f n / 2 ^ p % 2 := by
  have h1 := zN_dig f (p / 8) n
  rw [if_pos (by omega)] at h1
  rw [← h1, zmod2 _ _ (Nat.mod_lt _ (by decide)), Nat.div_div_eq_div_mul]
  congr 2
  rw [show (256 : Nat) = 2 ^ 8 from rfl, ← Nat.pow_mul, ← Nat.pow_add]
  congr 1
  omega
theorem zcode_s (f : Nat → Int32) (n pl i : Nat) : zcode f n pl (i + 1) = zcode f n pl i + zN f n / 2 ^ (pl + i) % 2 * 2 ^ i := by
  unfold zcode
  rw [Nat.pow_succ, Nat.mod_mul, Nat.mul_comm (2 ^ i), Nat.div_div_eq_div_mul, ← Nat.pow_add]
theorem zcode_lt (f : Nat → Int32) (n pl i : Nat) : zcode f n pl i < 2 ^ i := Nat.mod_lt _ (Nat.pow_pos (by decide))
/-- which of five numbers the byte k of twenty is of -/
def zwk (a1 a2 a3 a4 a5 : Int32) (k : Nat) : Int32 := if k < 4 then a1 else if k < 8 then a2 else if k < 12 then a3 else if k < 16 then a4 else a5
def zfe (f : Nat → Int32) (n : Nat) (g : Nat → Int32) : Nat → Nat → Int32
  | 0 => f
  | k + 1 => upd (zfe f n g k) (n + k) (g k)
theorem zrem4 : ∀ k, k < 20 → nI k - nI k / 4 * 4 = nI (k % 4) := by decide +kernel
theorem zsh4 : ∀ k, k < 20 → (24 : Int32) - 8 * nI (k % 4) = nI (24 - 8 * (k % 4)) := by decide +kernel
set_option maxRecDepth 100000 in
set_option maxHeartbeats 4000000 in
theorem sg_MO_feed0 {p : Program} {l : Launch} {e : Env} {s : State} {mi : MethodId} {args : Array Value} {below : List Frame} {meth : Method} {co : Code} {D : va_G} {cB cI cL : ClassId} {w0 : va_W} {kr nr : Nat} {post : Outcome → va_W → Prop} (C : zx_C p s mi args co b_MO_feed 8 R_MO zB D zcl (zt cB cI cL) (va_A w0 s.heap.size)) {ma tp rp dp wp op bp lp ep kp tn rn : Nat} {fl dn wn ba on bb bc cw cx cf : Int32} {a1 a2 a3 a4 a5 : Int32} {f : Nat → Int32} (hr9 : meth.sig.returnType = some .int) (hlk9 : meth.locks = false) (e11 : ((nI tn) + (20 : Int32)) = (nI (tn + 20))) (k27 : ((nI (tn + 20)) ≤ (16384 : Int32)) → zx_At p l e (zr 1 0 0) s mi args below meth co (zx_Q below s D zcl w0 kr nr (zr 1 0 0) post) D zcl (va_A w0 s.heap.size) 8 [(0, .ref ma), (1, .int a1), (2, .int a2), (3, .int a3), (4, .int a4), (5, .int a5), (6, .int (0 : Int32))] [(ma, .inr (5, [.int (0 : Int32), .ref tp, .int (nI tn), .ref rp, .int (nI rn), .ref dp, .int dn, .ref wp, .int wn, .int ba, .ref op, .int on, .ref bp, .ref lp, .ref ep, .int bb, .int bc, .int cw, .int cx, .int cf, .ref kp])), (tp, .inl (cB, 16384, .inl f))] 0 0 27 []) (r23 : (¬ (nI (tn + 20)) ≤ (16384 : Int32)) → post (.returned (some (.int (0 : Int32)))) [(ma, .inr (5, [.int (1 : Int32), .ref tp, .int (nI tn), .ref rp, .int (nI rn), .ref dp, .int dn, .ref wp, .int wn, .int ba, .ref op, .int on, .ref bp, .ref lp, .ref ep, .int bb, .int bc, .int cw, .int cx, .int cf, .ref kp])), (tp, .inl (cB, 16384, .inl f))]) : zx_At p l e (zr 1 0 0) s mi args below meth co (zx_Q below s D zcl w0 kr nr (zr 1 0 0) post) D zcl (va_A w0 s.heap.size) 8 [(0, .ref ma), (1, .int a1), (2, .int a2), (3, .int a3), (4, .int a4), (5, .int a5)] [(ma, .inr (5, [.int fl, .ref tp, .int (nI tn), .ref rp, .int (nI rn), .ref dp, .int dn, .ref wp, .int wn, .int ba, .ref op, .int on, .ref bp, .ref lp, .ref ep, .int bb, .int bc, .int cw, .int cx, .int cf, .ref kp])), (tp, .inl (cB, 16384, .inl f))] 0 0 0 [] := by
  refine zx_aload_n (pc := 0) C d_MO_feed_0 rfl 0 rfl ?_
  refine zx_iconst (pc := 1) C d_MO_feed_1 (v := (0 : Int32)) (by decide) ?_
  refine zx_put (pc := 2) (ci := 5) (Cn := R_MO) (T := T_MO) (N := 21) (v := .int (0 : Int32)) (ty := .int) (ws' := [(ma, .inr (5, [.int (0 : Int32), .ref tp, .int (nI tn), .ref rp, .int (nI rn), .ref dp, .int dn, .ref wp, .int wn, .int ba, .ref op, .int on, .ref bp, .ref lp, .ref ep, .int bb, .int bc, .int cw, .int cx, .int cf, .ref kp])), (tp, .inl (cB, 16384, .inl f))]) C zu_MO ty_MO tyk_MO nm_MO 0 rfl rfl 0 (by decide) zw_703 rfl rfl (by decide +kernel) rfl rfl (Nat.le_of_ble_eq_true rfl) rfl d_MO_feed_2 ?_
  refine zx_aload_n (pc := 5) C d_MO_feed_5 rfl 0 rfl ?_
  refine zx_get (pc := 6) (ci := 5) (Cn := R_MO) (T := T_MO) (N := 21) (v := .int (nI tn)) C zu_MO 0 rfl rfl 2 (by decide) zw_705 rfl rfl d_MO_feed_6 ?_
  refine zx_bipush (pc := 9) C d_MO_feed_9 (v := (20 : Int32)) (by decide) ?_
  refine zx_iadd (pc := 11) C d_MO_feed_11 ?_
  refine zx_seti (nI (tn + 20)) (e11) ?_
  refine zx_sipush (pc := 12) C d_MO_feed_12 (v := (16384 : Int32)) (by decide) ?_
  refine zx_icmp_le (pc := 15) C 24 d_MO_feed_15 (by decide) (fun c15 => ?_) (fun c15 => ?_)
  · refine zx_iconst (pc := 24) C d_MO_feed_24 (v := (0 : Int32)) (by decide) ?_
    refine zx_istore (pc := 25) C d_MO_feed_25 (by decide) (lv' := [(6, .int (0 : Int32)), (0, .ref ma), (1, .int a1), (2, .int a2), (3, .int a3), (4, .int a4), (5, .int a5)]) rfl ?_
    refine zx_lv (lv' := [(0, .ref ma), (1, .int a1), (2, .int a2), (3, .int a3), (4, .int a4), (5, .int a5), (6, .int (0 : Int32))]) [1, 2, 3, 4, 5, 6, 0] rfl ?_
    exact k27 c15
  · refine zx_aload_n (pc := 18) C d_MO_feed_18 rfl 0 rfl ?_
    refine zx_iconst (pc := 19) C d_MO_feed_19 (v := (1 : Int32)) (by decide) ?_
    refine zx_callV (pc := 20) (ix := 109) (As := [.int (1 : Int32)]) (b := ma) (q0 := 0) (wr := [(tp, .inl (cB, 16384, .inl f))]) (st := []) C (zx_cw.of (C.w zw_780)) (by decide +kernel) ⟨by decide +kernel, by decide +kernel⟩ zw_779 zs_MO_fail zw_777 rfl rfl rfl rfl rfl (k_MO_fail l D cB cI cL (zr 0 0 0) ma tp rp dp wp op bp lp ep kp tn rn (0 : Int32) dn wn ba on bb bc cw cx cf (1 : Int32)) rfl [0] [1] rfl rfl (by decide) (by decide) (by decide) (Nat.le_of_ble_eq_true rfl) (Nat.le_of_ble_eq_true rfl) (Nat.le_of_ble_eq_true rfl) (Nat.le_of_ble_eq_true rfl) d_MO_feed_20 (fun o w1 hp => ?_)
    obtain ⟨rfl, rfl⟩ := hp
    refine zx_ri (k2 := 0) (n2 := 0) rfl rfl ?_
    refine zx_ws (ws' := [(ma, .inr (5, [.int (1 : Int32), .ref tp, .int (nI tn), .ref rp, .int (nI rn), .ref dp, .int dn, .ref wp, .int wn, .int ba, .ref op, .int on, .ref bp, .ref lp, .ref ep, .int bb, .int bc, .int cw, .int cx, .int cf, .ref kp])), (tp, .inl (cB, 16384, .inl f))]) [1, 0] (by decide) rfl ?_
    exact zx_iret (pc := 23) C hr9 hlk9 (Nat.zero_le _) (Nat.zero_le _) d_MO_feed_23 (r23 c15)

set_option maxRecDepth 100000 in
set_option maxHeartbeats 4000000 in
theorem sg_MO_feed27 {p : Program} {l : Launch} {e : Env} {R : Room} {s : State} {mi : MethodId} {args : Array Value} {below : List Frame} {meth : Method} {co : Code} {D : va_G} {cB cI cL : ClassId} {w0 : va_W} {kr nr : Nat} {post : Outcome → va_W → Prop} (C : zx_C p s mi args co b_MO_feed 8 R_MO zB D zcl (zt cB cI cL) (va_A w0 s.heap.size)) {ma tp rp dp wp op bp lp ep kp tn rn k : Nat} {dn wn ba on bb bc cw cx cf : Int32} {a1 a2 a3 a4 a5 : Int32} {f : Nat → Int32} (hr9 : meth.sig.returnType = some .int) (hlk9 : meth.locks = false) (r125 : ((20 : Int32) ≤ (nI k)) → post (.returned (some (.int (nI (tn + k))))) [(ma, .inr (5, [.int (0 : Int32), .ref tp, .int (nI (tn + k)), .ref rp, .int (nI rn), .ref dp, .int dn, .ref wp, .int wn, .int ba, .ref op, .int on, .ref bp, .ref lp, .ref ep, .int bb, .int bc, .int cw, .int cx, .int cf, .ref kp])), (tp, .inl (cB, 16384, .inl f))]) (k80 : (¬ (20 : Int32) ≤ (nI k)) → ((4 : Int32) ≤ (nI k)) → ((8 : Int32) ≤ (nI k)) → ((12 : Int32) ≤ (nI k)) → ((16 : Int32) ≤ (nI k)) → zx_At p l e R s mi args below meth co (zx_Q below s D zcl w0 kr nr R post) D zcl (va_A w0 s.heap.size) 8 [(0, .ref ma), (1, .int a1), (2, .int a2), (3, .int a3), (4, .int a4), (5, .int a5), (6, .int (nI k))] [(ma, .inr (5, [.int (0 : Int32), .ref tp, .int (nI (tn + k)), .ref rp, .int (nI rn), .ref dp, .int dn, .ref wp, .int wn, .int ba, .ref op, .int on, .ref bp, .ref lp, .ref ep, .int bb, .int bc, .int cw, .int cx, .int cf, .ref kp])), (tp, .inl (cB, 16384, .inl f))] 0 0 80 [.int a5]) (k80_2 : (¬ (20 : Int32) ≤ (nI k)) → ((4 : Int32) ≤ (nI k)) → ((8 : Int32) ≤ (nI k)) → ((12 : Int32) ≤ (nI k)) → (¬ (16 : Int32) ≤ (nI k)) → zx_At p l e R s mi args below meth co (zx_Q below s D zcl w0 kr nr R post) D zcl (va_A w0 s.heap.size) 8 [(0, .ref ma), (1, .int a1), (2, .int a2), (3, .int a3), (4, .int a4), (5, .int a5), (6, .int (nI k))] [(ma, .inr (5, [.int (0 : Int32), .ref tp, .int (nI (tn + k)), .ref rp, .int (nI rn), .ref dp, .int dn, .ref wp, .int wn, .int ba, .ref op, .int on, .ref bp, .ref lp, .ref ep, .int bb, .int bc, .int cw, .int cx, .int cf, .ref kp])), (tp, .inl (cB, 16384, .inl f))] 0 0 80 [.int a4]) (k80_3 : (¬ (20 : Int32) ≤ (nI k)) → ((4 : Int32) ≤ (nI k)) → ((8 : Int32) ≤ (nI k)) → (¬ (12 : Int32) ≤ (nI k)) → zx_At p l e R s mi args below meth co (zx_Q below s D zcl w0 kr nr R post) D zcl (va_A w0 s.heap.size) 8 [(0, .ref ma), (1, .int a1), (2, .int a2), (3, .int a3), (4, .int a4), (5, .int a5), (6, .int (nI k))] [(ma, .inr (5, [.int (0 : Int32), .ref tp, .int (nI (tn + k)), .ref rp, .int (nI rn), .ref dp, .int dn, .ref wp, .int wn, .int ba, .ref op, .int on, .ref bp, .ref lp, .ref ep, .int bb, .int bc, .int cw, .int cx, .int cf, .ref kp])), (tp, .inl (cB, 16384, .inl f))] 0 0 80 [.int a3]) (k80_4 : (¬ (20 : Int32) ≤ (nI k)) → ((4 : Int32) ≤ (nI k)) → (¬ (8 : Int32) ≤ (nI k)) → zx_At p l e R s mi args below meth co (zx_Q below s D zcl w0 kr nr R post) D zcl (va_A w0 s.heap.size) 8 [(0, .ref ma), (1, .int a1), (2, .int a2), (3, .int a3), (4, .int a4), (5, .int a5), (6, .int (nI k))] [(ma, .inr (5, [.int (0 : Int32), .ref tp, .int (nI (tn + k)), .ref rp, .int (nI rn), .ref dp, .int dn, .ref wp, .int wn, .int ba, .ref op, .int on, .ref bp, .ref lp, .ref ep, .int bb, .int bc, .int cw, .int cx, .int cf, .ref kp])), (tp, .inl (cB, 16384, .inl f))] 0 0 80 [.int a2]) (k80_5 : (¬ (20 : Int32) ≤ (nI k)) → (¬ (4 : Int32) ≤ (nI k)) → zx_At p l e R s mi args below meth co (zx_Q below s D zcl w0 kr nr R post) D zcl (va_A w0 s.heap.size) 8 [(0, .ref ma), (1, .int a1), (2, .int a2), (3, .int a3), (4, .int a4), (5, .int a5), (6, .int (nI k))] [(ma, .inr (5, [.int (0 : Int32), .ref tp, .int (nI (tn + k)), .ref rp, .int (nI rn), .ref dp, .int dn, .ref wp, .int wn, .int ba, .ref op, .int on, .ref bp, .ref lp, .ref ep, .int bb, .int bc, .int cw, .int cx, .int cf, .ref kp])), (tp, .inl (cB, 16384, .inl f))] 0 0 80 [.int a1]) : zx_At p l e R s mi args below meth co (zx_Q below s D zcl w0 kr nr R post) D zcl (va_A w0 s.heap.size) 8 [(0, .ref ma), (1, .int a1), (2, .int a2), (3, .int a3), (4, .int a4), (5, .int a5), (6, .int (nI k))] [(ma, .inr (5, [.int (0 : Int32), .ref tp, .int (nI (tn + k)), .ref rp, .int (nI rn), .ref dp, .int dn, .ref wp, .int wn, .int ba, .ref op, .int on, .ref bp, .ref lp, .ref ep, .int bb, .int bc, .int cw, .int cx, .int cf, .ref kp])), (tp, .inl (cB, 16384, .inl f))] 0 0 27 [] := by
  refine zx_iload (pc := 27) C d_MO_feed_27 6 rfl ?_
  refine zx_bipush (pc := 29) C d_MO_feed_29 (v := (20 : Int32)) (by decide) ?_
  refine zx_icmp_ge (pc := 31) C 121 d_MO_feed_31 (by decide) (fun c31 => ?_) (fun c31 => ?_)
  · refine zx_aload_n (pc := 121) C d_MO_feed_121 rfl 0 rfl ?_
    refine zx_get (pc := 122) (ci := 5) (Cn := R_MO) (T := T_MO) (N := 21) (v := .int (nI (tn + k))) C zu_MO 0 rfl rfl 2 (by decide) zw_705 rfl rfl d_MO_feed_122 ?_
    exact zx_iret (pc := 125) C hr9 hlk9 (Nat.zero_le _) (Nat.zero_le _) d_MO_feed_125 (r125 c31)
  · refine zx_iload (pc := 34) C d_MO_feed_34 6 rfl ?_
    refine zx_iconst (pc := 36) C d_MO_feed_36 (v := (4 : Int32)) (by decide) ?_
    refine zx_icmp_ge (pc := 37) C 44 d_MO_feed_37 (by decide) (fun c37 => ?_) (fun c37 => ?_)
    · refine zx_iload (pc := 44) C d_MO_feed_44 6 rfl ?_
      refine zx_bipush (pc := 46) C d_MO_feed_46 (v := (8 : Int32)) (by decide) ?_
      refine zx_icmp_ge (pc := 48) C 55 d_MO_feed_48 (by decide) (fun c48 => ?_) (fun c48 => ?_)
      · refine zx_iload (pc := 55) C d_MO_feed_55 6 rfl ?_
        refine zx_bipush (pc := 57) C d_MO_feed_57 (v := (12 : Int32)) (by decide) ?_
        refine zx_icmp_ge (pc := 59) C 66 d_MO_feed_59 (by decide) (fun c59 => ?_) (fun c59 => ?_)
        · refine zx_iload (pc := 66) C d_MO_feed_66 6 rfl ?_
          refine zx_bipush (pc := 68) C d_MO_feed_68 (v := (16 : Int32)) (by decide) ?_
          refine zx_icmp_ge (pc := 70) C 78 d_MO_feed_70 (by decide) (fun c70 => ?_) (fun c70 => ?_)
          · refine zx_iload (pc := 78) C d_MO_feed_78 5 rfl ?_
            exact k80 c31 c37 c48 c59 c70
          · refine zx_iload (pc := 73) C d_MO_feed_73 4 rfl ?_
            refine zx_goto (pc := 75) C 80 d_MO_feed_75 (by decide) ?_
            exact k80_2 c31 c37 c48 c59 c70
        · refine zx_iload_n (pc := 62) C d_MO_feed_62 rfl 3 rfl ?_
          refine zx_goto (pc := 63) C 80 d_MO_feed_63 (by decide) ?_
          exact k80_3 c31 c37 c48 c59
      · refine zx_iload_n (pc := 51) C d_MO_feed_51 rfl 2 rfl ?_
        refine zx_goto (pc := 52) C 80 d_MO_feed_52 (by decide) ?_
        exact k80_4 c31 c37 c48
    · refine zx_iload_n (pc := 40) C d_MO_feed_40 rfl 1 rfl ?_
      refine zx_goto (pc := 41) C 80 d_MO_feed_41 (by decide) ?_
      exact k80_5 c31 c37

set_option maxRecDepth 100000 in
set_option maxHeartbeats 4000000 in
theorem sg_MO_feed80 {p : Program} {l : Launch} {e : Env} {R : Room} {s : State} {mi : MethodId} {args : Array Value} {below : List Frame} {meth : Method} {co : Code} {D : va_G} {cB cI cL : ClassId} {Q : State → Prop} {A : Nat → Prop} (C : zx_C p s mi args co b_MO_feed 8 R_MO zB D zcl (zt cB cI cL) A) {ma tp rp dp wp op bp lp ep kp tn rn k : Nat} {dn wn ba on bb bc cw cx cf : Int32} {a1 a2 a3 a4 a5 : Int32} {f : Nat → Int32} {w9 : Int32} (e99 : ((nI k) - (nI k) / (4 : Int32) * (4 : Int32)) = (nI (k % 4))) (e101 : ((24 : Int32) - ((8 : Int32) * (nI (k % 4)))) = (nI (24 - 8 * (k % 4)))) (e103 : ((w9 >>> ((nI (24 - 8 * (k % 4))) &&& 31)).toInt8.toInt32) = (zq w9 (k % 4))) (b104 : (nI (tn + k)) = nI (tn + k) ∧ (tn + k) < 16384) (e111 : ((nI (tn + k)) + (1 : Int32)) = (nI (tn + (k + 1)))) (e115 : (nI k) + (1 : Int32) = (nI (k + 1))) (k27 : zx_At p l e R s mi args below meth co Q D zcl A 8 [(0, .ref ma), (1, .int a1), (2, .int a2), (3, .int a3), (4, .int a4), (5, .int a5), (6, .int (nI (k + 1)))] [(ma, .inr (5, [.int (0 : Int32), .ref tp, .int (nI (tn + (k + 1))), .ref rp, .int (nI rn), .ref dp, .int dn, .ref wp, .int wn, .int ba, .ref op, .int on, .ref bp, .ref lp, .ref ep, .int bb, .int bc, .int cw, .int cx, .int cf, .ref kp])), (tp, .inl (cB, 16384, .inl (upd f (tn + k) (vp_nar .byte (zq w9 (k % 4))))))] 0 0 27 []) : zx_At p l e R s mi args below meth co Q D zcl A 8 [(0, .ref ma), (1, .int a1), (2, .int a2), (3, .int a3), (4, .int a4), (5, .int a5), (6, .int (nI k))] [(ma, .inr (5, [.int (0 : Int32), .ref tp, .int (nI (tn + k)), .ref rp, .int (nI rn), .ref dp, .int dn, .ref wp, .int wn, .int ba, .ref op, .int on, .ref bp, .ref lp, .ref ep, .int bb, .int bc, .int cw, .int cx, .int cf, .ref kp])), (tp, .inl (cB, 16384, .inl f))] 0 0 80 [.int w9] := by
  refine zx_istore (pc := 80) C d_MO_feed_80 (by decide) (lv' := [(7, .int w9), (0, .ref ma), (1, .int a1), (2, .int a2), (3, .int a3), (4, .int a4), (5, .int a5), (6, .int (nI k))]) rfl ?_
  refine zx_aload_n (pc := 82) C d_MO_feed_82 rfl 1 rfl ?_
  refine zx_get (pc := 83) (ci := 5) (Cn := R_MO) (T := T_MO) (N := 21) (v := .ref tp) C zu_MO 0 rfl rfl 1 (by decide) zw_704 rfl rfl d_MO_feed_83 ?_
  refine zx_aload_n (pc := 86) C d_MO_feed_86 rfl 1 rfl ?_
  refine zx_get (pc := 87) (ci := 5) (Cn := R_MO) (T := T_MO) (N := 21) (v := .int (nI (tn + k))) C zu_MO 0 rfl rfl 2 (by decide) zw_705 rfl rfl d_MO_feed_87 ?_
  refine zx_iload (pc := 90) C d_MO_feed_90 0 rfl ?_
  refine zx_bipush (pc := 92) C d_MO_feed_92 (v := (24 : Int32)) (by decide) ?_
  refine zx_bipush (pc := 94) C d_MO_feed_94 (v := (8 : Int32)) (by decide) ?_
  refine zx_iload (pc := 96) C d_MO_feed_96 7 rfl ?_
  refine zx_iconst (pc := 98) C d_MO_feed_98 (v := (4 : Int32)) (by decide) ?_
  refine zx_irem (pc := 99) C d_MO_feed_99 (by decide) ?_
  refine zx_seti (nI (k % 4)) (e99) ?_
  refine zx_imul (pc := 100) C d_MO_feed_100 ?_
  refine zx_isub (pc := 101) C d_MO_feed_101 ?_
  refine zx_seti (nI (24 - 8 * (k % 4))) (e101) ?_
  refine zx_ishr (pc := 102) C d_MO_feed_102 ?_
  refine zx_i2b (pc := 103) C d_MO_feed_103 rfl ?_
  refine zx_seti (zq w9 (k % 4)) (e103) ?_
  refine zx_bast (pc := 104) (ws' := [(ma, .inr (5, [.int (0 : Int32), .ref tp, .int (nI (tn + k)), .ref rp, .int (nI rn), .ref dp, .int dn, .ref wp, .int wn, .int ba, .ref op, .int on, .ref bp, .ref lp, .ref ep, .int bb, .int bc, .int cw, .int cx, .int cf, .ref kp])), (tp, .inl (cB, 16384, .inl (upd f (tn + k) (vp_nar .byte (zq w9 (k % 4))))))]) C 1 0 rfl rfl (tn + k) (b104).1 (b104).2 (by decide) rfl d_MO_feed_104 ?_
  refine zx_aload_n (pc := 105) C d_MO_feed_105 rfl 1 rfl ?_
  refine zx_dup (pc := 106) C d_MO_feed_106 rfl ?_
  refine zx_get (pc := 107) (ci := 5) (Cn := R_MO) (T := T_MO) (N := 21) (v := .int (nI (tn + k))) C zu_MO 0 rfl rfl 2 (by decide) zw_705 rfl rfl d_MO_feed_107 ?_
  refine zx_iconst (pc := 110) C d_MO_feed_110 (v := (1 : Int32)) (by decide) ?_
  refine zx_iadd (pc := 111) C d_MO_feed_111 ?_
  refine zx_seti (nI (tn + (k + 1))) (e111) ?_
  refine zx_put (pc := 112) (ci := 5) (Cn := R_MO) (T := T_MO) (N := 21) (v := .int (nI (tn + (k + 1)))) (ty := .int) (ws' := [(ma, .inr (5, [.int (0 : Int32), .ref tp, .int (nI (tn + (k + 1))), .ref rp, .int (nI rn), .ref dp, .int dn, .ref wp, .int wn, .int ba, .ref op, .int on, .ref bp, .ref lp, .ref ep, .int bb, .int bc, .int cw, .int cx, .int cf, .ref kp])), (tp, .inl (cB, 16384, .inl (upd f (tn + k) (vp_nar .byte (zq w9 (k % 4))))))]) C zu_MO ty_MO tyk_MO nm_MO 0 rfl rfl 2 (by decide) zw_705 rfl rfl (by decide +kernel) rfl rfl (Nat.le_of_ble_eq_true rfl) rfl d_MO_feed_112 ?_
  refine zx_iinc (pc := 115) C d_MO_feed_115 7 rfl (v := (nI (k + 1))) (e115) (by decide) (lv' := [(6, .int (nI (k + 1))), (7, .int w9), (0, .ref ma), (1, .int a1), (2, .int a2), (3, .int a3), (4, .int a4), (5, .int a5)]) rfl ?_
  refine zx_goto (pc := 118) C 27 d_MO_feed_118 (by decide) ?_
  refine zx_lv (lv' := [(0, .ref ma), (1, .int a1), (2, .int a2), (3, .int a3), (4, .int a4), (5, .int a5), (6, .int (nI (k + 1)))]) [2, 3, 4, 5, 6, 7, 0] rfl ?_
  exact k27

theorem k_MO_feed (l : Launch) (D : va_G) (cB cI cL : ClassId) (ma tp rp dp wp op bp lp ep kp tn rn : Nat) (fl dn wn ba on bb bc cw cx cf : Int32) (a1 a2 a3 a4 a5 : Int32) (f : Nat → Int32) (hn : tn ≤ 16384) : zx_K l zB D zcl (zt cB cI cL) y_MO_feed b_MO_feed 8 (some .int) [] 0 0 (zr 1 0 0) [.ref ma, .int a1, .int a2, .int a3, .int a4, .int a5] [(ma, .inr (5, [.int fl, .ref tp, .int (nI tn), .ref rp, .int (nI rn), .ref dp, .int dn, .ref wp, .int wn, .int ba, .ref op, .int on, .ref bp, .ref lp, .ref ep, .int bb, .int bc, .int cw, .int cx, .int cf, .ref kp])), (tp, .inl (cB, 16384, .inl f))] (fun o w => ((16364 < tn) ∧ o = .returned (some (.int 0)) ∧ w = [(ma, .inr (5, [.int 1, .ref tp, .int (nI tn), .ref rp, .int (nI rn), .ref dp, .int dn, .ref wp, .int wn, .int ba, .ref op, .int on, .ref bp, .ref lp, .ref ep, .int bb, .int bc, .int cw, .int cx, .int cf, .ref kp])), (tp, .inl (cB, 16384, .inl f))]) ∨ (¬ (16364 < tn) ∧ o = .returned (some (.int (nI (tn + 20)))) ∧ w = [(ma, .inr (5, [.int 0, .ref tp, .int (nI (tn + 20)), .ref rp, .int (nI rn), .ref dp, .int dn, .ref wp, .int wn, .int ba, .ref op, .int on, .ref bp, .ref lp, .ref ep, .int bb, .int bc, .int cw, .int cx, .int cf, .ref kp])), (tp, .inl (cB, 16384, .inl (zad (zad (zad (zad (zad f tn a1) (tn + 4) a2) (tn + 8) a3) (tn + 12) a4) (tn + 16) a5)))])) := by
  refine zx_K.mk (Nat.le_of_ble_eq_true rfl) (fun p e s mm below meth c9 C hr hlk ht hnm => ?_)
  have key : nI (tn + 20) ≤ (16384 : Int32) ↔ tn + 20 ≤ 16384 := zp_le (k := 16384) rfl (by omega) (by decide)
  have go : tn + 20 ≤ 16384 → zx_At p l e (zr 1 0 0) s mm (([.ref ma, .int a1, .int a2, .int a3, .int a4, .int a5] : List Value)).toArray below meth c9 (zx_Q below s D zcl [(ma, .inr (5, [.int fl, .ref tp, .int (nI tn), .ref rp, .int (nI rn), .ref dp, .int dn, .ref wp, .int wn, .int ba, .ref op, .int on, .ref bp, .ref lp, .ref ep, .int bb, .int bc, .int cw, .int cx, .int cf, .ref kp])), (tp, .inl (cB, 16384, .inl f))] 0 0 (zr 1 0 0) (fun o w => ((16364 < tn) ∧ o = .returned (some (.int 0)) ∧ w = [(ma, .inr (5, [.int 1, .ref tp, .int (nI tn), .ref rp, .int (nI rn), .ref dp, .int dn, .ref wp, .int wn, .int ba, .ref op, .int on, .ref bp, .ref lp, .ref ep, .int bb, .int bc, .int cw, .int cx, .int cf, .ref kp])), (tp, .inl (cB, 16384, .inl f))]) ∨ (¬ (16364 < tn) ∧ o = .returned (some (.int (nI (tn + 20)))) ∧ w = [(ma, .inr (5, [.int 0, .ref tp, .int (nI (tn + 20)), .ref rp, .int (nI rn), .ref dp, .int dn, .ref wp, .int wn, .int ba, .ref op, .int on, .ref bp, .ref lp, .ref ep, .int bb, .int bc, .int cw, .int cx, .int cf, .ref kp])), (tp, .inl (cB, 16384, .inl (zad (zad (zad (zad (zad f tn a1) (tn + 4) a2) (tn + 8) a3) (tn + 12) a4) (tn + 16) a5)))]))) D zcl (va_A [(ma, .inr (5, [.int fl, .ref tp, .int (nI tn), .ref rp, .int (nI rn), .ref dp, .int dn, .ref wp, .int wn, .int ba, .ref op, .int on, .ref bp, .ref lp, .ref ep, .int bb, .int bc, .int cw, .int cx, .int cf, .ref kp])), (tp, .inl (cB, 16384, .inl f))] s.heap.size) 8 [(0, .ref ma), (1, .int a1), (2, .int a2), (3, .int a3), (4, .int a4), (5, .int a5), (6, .int (nI 0))] [(ma, .inr (5, [.int (0 : Int32), .ref tp, .int (nI (tn + 0)), .ref rp, .int (nI rn), .ref dp, .int dn, .ref wp, .int wn, .int ba, .ref op, .int on, .ref bp, .ref lp, .ref ep, .int bb, .int bc, .int cw, .int cx, .int cf, .ref kp])), (tp, .inl (cB, 16384, .inl (zfe f tn (fun k => zq (zwk a1 a2 a3 a4 a5 k) (k % 4)) 0)))] 0 0 27 [] := by
    intro ht20
    have loop : ∀ (d k : Nat), k + d = 20 → zx_At p l e (zr 1 0 0) s mm (([.ref ma, .int a1, .int a2, .int a3, .int a4, .int a5] : List Value)).toArray below meth c9 (zx_Q below s D zcl [(ma, .inr (5, [.int fl, .ref tp, .int (nI tn), .ref rp, .int (nI rn), .ref dp, .int dn, .ref wp, .int wn, .int ba, .ref op, .int on, .ref bp, .ref lp, .ref ep, .int bb, .int bc, .int cw, .int cx, .int cf, .ref kp])), (tp, .inl (cB, 16384, .inl f))] 0 0 (zr 1 0 0) (fun o w => ((16364 < tn) ∧ o = .returned (some (.int 0)) ∧ w = [(ma, .inr (5, [.int 1, .ref tp, .int (nI tn), .ref rp, .int (nI rn), .ref dp, .int dn, .ref wp, .int wn, .int ba, .ref op, .int on, .ref bp, .ref lp, .ref ep, .int bb, .int bc, .int cw, .int cx, .int cf, .ref kp])), (tp, .inl (cB, 16384, .inl f))]) ∨ (¬ (16364 < tn) ∧ o = .returned (some (.int (nI (tn + 20)))) ∧ w = [(ma, .inr (5, [.int 0, .ref tp, .int (nI (tn + 20)), .ref rp, .int (nI rn), .ref dp, .int dn, .ref wp, .int wn, .int ba, .ref op, .int on, .ref bp, .ref lp, .ref ep, .int bb, .int bc, .int cw, .int cx, .int cf, .ref kp])), (tp, .inl (cB, 16384, .inl (zad (zad (zad (zad (zad f tn a1) (tn + 4) a2) (tn + 8) a3) (tn + 12) a4) (tn + 16) a5)))]))) D zcl (va_A [(ma, .inr (5, [.int fl, .ref tp, .int (nI tn), .ref rp, .int (nI rn), .ref dp, .int dn, .ref wp, .int wn, .int ba, .ref op, .int on, .ref bp, .ref lp, .ref ep, .int bb, .int bc, .int cw, .int cx, .int cf, .ref kp])), (tp, .inl (cB, 16384, .inl f))] s.heap.size) 8 [(0, .ref ma), (1, .int a1), (2, .int a2), (3, .int a3), (4, .int a4), (5, .int a5), (6, .int (nI k))] [(ma, .inr (5, [.int (0 : Int32), .ref tp, .int (nI (tn + k)), .ref rp, .int (nI rn), .ref dp, .int dn, .ref wp, .int wn, .int ba, .ref op, .int on, .ref bp, .ref lp, .ref ep, .int bb, .int bc, .int cw, .int cx, .int cf, .ref kp])), (tp, .inl (cB, 16384, .inl (zfe f tn (fun k => zq (zwk a1 a2 a3 a4 a5 k) (k % 4)) k)))] 0 0 27 [] := by
      intro d
      induction d with
      | zero =>
        intro k hk
        have hk20 : k = 20 := by omega
        subst hk20
        have kk : (20 : Int32) ≤ nI 20 := by decide
        exact sg_MO_feed27 C hr hlk (fun _ => Or.inr ⟨by omega, rfl, rfl⟩) (fun z => absurd kk z) (fun z => absurd kk z) (fun z => absurd kk z) (fun z => absurd kk z) (fun z => absurd kk z)
      | succ d ih =>
        intro k hk
        have nk : ¬ (20 : Int32) ≤ nI k := fun z => absurd ((zp_ge (k := 20) rfl (by omega) (by decide)).mp z) (by omega)
        have n4 : (4 : Int32) ≤ nI k ↔ 4 ≤ k := zp_ge (k := 4) rfl (by omega) (by decide)
        have n8 : (8 : Int32) ≤ nI k ↔ 8 ≤ k := zp_ge (k := 8) rfl (by omega) (by decide)
        have n12 : (12 : Int32) ≤ nI k ↔ 12 ≤ k := zp_ge (k := 12) rfl (by omega) (by decide)
        have n16 : (16 : Int32) ≤ nI k ↔ 16 ≤ k := zp_ge (k := 16) rfl (by omega) (by decide)
        have nx : ∀ w9, w9 = zwk a1 a2 a3 a4 a5 k → zx_At p l e (zr 1 0 0) s mm (([.ref ma, .int a1, .int a2, .int a3, .int a4, .int a5] : List Value)).toArray below meth c9 (zx_Q below s D zcl [(ma, .inr (5, [.int fl, .ref tp, .int (nI tn), .ref rp, .int (nI rn), .ref dp, .int dn, .ref wp, .int wn, .int ba, .ref op, .int on, .ref bp, .ref lp, .ref ep, .int bb, .int bc, .int cw, .int cx, .int cf, .ref kp])), (tp, .inl (cB, 16384, .inl f))] 0 0 (zr 1 0 0) (fun o w => ((16364 < tn) ∧ o = .returned (some (.int 0)) ∧ w = [(ma, .inr (5, [.int 1, .ref tp, .int (nI tn), .ref rp, .int (nI rn), .ref dp, .int dn, .ref wp, .int wn, .int ba, .ref op, .int on, .ref bp, .ref lp, .ref ep, .int bb, .int bc, .int cw, .int cx, .int cf, .ref kp])), (tp, .inl (cB, 16384, .inl f))]) ∨ (¬ (16364 < tn) ∧ o = .returned (some (.int (nI (tn + 20)))) ∧ w = [(ma, .inr (5, [.int 0, .ref tp, .int (nI (tn + 20)), .ref rp, .int (nI rn), .ref dp, .int dn, .ref wp, .int wn, .int ba, .ref op, .int on, .ref bp, .ref lp, .ref ep, .int bb, .int bc, .int cw, .int cx, .int cf, .ref kp])), (tp, .inl (cB, 16384, .inl (zad (zad (zad (zad (zad f tn a1) (tn + 4) a2) (tn + 8) a3) (tn + 12) a4) (tn + 16) a5)))]))) D zcl (va_A [(ma, .inr (5, [.int fl, .ref tp, .int (nI tn), .ref rp, .int (nI rn), .ref dp, .int dn, .ref wp, .int wn, .int ba, .ref op, .int on, .ref bp, .ref lp, .ref ep, .int bb, .int bc, .int cw, .int cx, .int cf, .ref kp])), (tp, .inl (cB, 16384, .inl f))] s.heap.size) 8 [(0, .ref ma), (1, .int a1), (2, .int a2), (3, .int a3), (4, .int a4), (5, .int a5), (6, .int (nI k))] [(ma, .inr (5, [.int (0 : Int32), .ref tp, .int (nI (tn + k)), .ref rp, .int (nI rn), .ref dp, .int dn, .ref wp, .int wn, .int ba, .ref op, .int on, .ref bp, .ref lp, .ref ep, .int bb, .int bc, .int cw, .int cx, .int cf, .ref kp])), (tp, .inl (cB, 16384, .inl (zfe f tn (fun k => zq (zwk a1 a2 a3 a4 a5 k) (k % 4)) k)))] 0 0 80 [.int w9] := fun w9 hw => by
          subst hw
          refine sg_MO_feed80 C (zrem4 k (by omega)) (zsh4 k (by omega)) (zq_sar _ (Nat.mod_lt _ (by decide))) ⟨rfl, by omega⟩ (nI_1 _) (nI_1 _) ?_
          rw [show vp_nar .byte (zq (zwk a1 a2 a3 a4 a5 k) (k % 4)) = zq (zwk a1 a2 a3 a4 a5 k) (k % 4) from zby_nar _]
          exact ih (k + 1) (by omega)
        refine sg_MO_feed27 C hr hlk (fun z => absurd z nk) (fun _ h4 h8 h12 h16 => nx _ ?_) (fun _ h4 h8 h12 h16 => nx _ ?_) (fun _ h4 h8 h12 => nx _ ?_) (fun _ h4 h8 => nx _ ?_) (fun _ h4 => nx _ ?_)
        · have := n16.mp h16; unfold zwk; rw [if_neg (by omega), if_neg (by omega), if_neg (by omega), if_neg (by omega)]
        · have := n12.mp h12; have := mt n16.mpr h16; unfold zwk; rw [if_neg (by omega), if_neg (by omega), if_neg (by omega), if_pos (by omega)]
        · have := n8.mp h8; have := mt n12.mpr h12; unfold zwk; rw [if_neg (by omega), if_neg (by omega), if_pos (by omega)]
        · have := n4.mp h4; have := mt n8.mpr h8; unfold zwk; rw [if_neg (by omega), if_pos (by omega)]
        · have := mt n4.mpr h4; unfold zwk; rw [if_pos (by omega)]
    exact loop 20 0 rfl
  exact sg_MO_feed0 C hr hlk (nI_add tn 20) (fun h => go (key.mp h)) (fun h => Or.inl ⟨by have := mt key.mpr h; omega, rfl, rfl⟩)
set_option maxRecDepth 100000 in
set_option maxHeartbeats 4000000 in
theorem sg_MO_bits0 {p : Program} {l : Launch} {e : Env} {R : Room} {s : State} {mi : MethodId} {args : Array Value} {below : List Frame} {meth : Method} {co : Code} {D : va_G} {cB cI cL : ClassId} {Q : State → Prop} {A : Nat → Prop} (C : zx_C p s mi args co b_MO_bits 4 R_MO zB D zcl (zt cB cI cL) A) {ma tp rp dp wp op bp lp ep kp tn rn n pl k : Nat} {fl wn on bb bc cw cx cf : Int32} {dt : Nat → Int32} (k4 : zx_At p l e R s mi args below meth co Q D zcl A 4 [(0, .ref ma), (1, .int (nI k)), (2, .int (0 : Int32)), (3, .int (0 : Int32))] [(ma, .inr (5, [.int fl, .ref tp, .int (nI tn), .ref rp, .int (nI rn), .ref dp, .int (nI n), .ref wp, .int wn, .int (nI pl), .ref op, .int on, .ref bp, .ref lp, .ref ep, .int bb, .int bc, .int cw, .int cx, .int cf, .ref kp])), (dp, .inl (cB, 16384, .inl dt))] 0 0 4 []) : zx_At p l e R s mi args below meth co Q D zcl A 4 [(0, .ref ma), (1, .int (nI k))] [(ma, .inr (5, [.int fl, .ref tp, .int (nI tn), .ref rp, .int (nI rn), .ref dp, .int (nI n), .ref wp, .int wn, .int (nI pl), .ref op, .int on, .ref bp, .ref lp, .ref ep, .int bb, .int bc, .int cw, .int cx, .int cf, .ref kp])), (dp, .inl (cB, 16384, .inl dt))] 0 0 0 [] := by
  refine zx_iconst (pc := 0) C d_MO_bits_0 (v := (0 : Int32)) (by decide) ?_
  refine zx_istore_n (pc := 1) C d_MO_bits_1 rfl (by decide) (lv' := [(2, .int (0 : Int32)), (0, .ref ma), (1, .int (nI k))]) rfl ?_
  refine zx_iconst (pc := 2) C d_MO_bits_2 (v := (0 : Int32)) (by decide) ?_
  refine zx_istore_n (pc := 3) C d_MO_bits_3 rfl (by decide) (lv' := [(3, .int (0 : Int32)), (2, .int (0 : Int32)), (0, .ref ma), (1, .int (nI k))]) rfl ?_
  refine zx_lv (lv' := [(0, .ref ma), (1, .int (nI k)), (2, .int (0 : Int32)), (3, .int (0 : Int32))]) [2, 3, 1, 0] rfl ?_
  exact k4

set_option maxRecDepth 100000 in
set_option maxHeartbeats 4000000 in
theorem sg_MO_bits4 {p : Program} {l : Launch} {e : Env} {R : Room} {s : State} {mi : MethodId} {args : Array Value} {below : List Frame} {meth : Method} {co : Code} {D : va_G} {cB cI cL : ClassId} {w0 : va_W} {kr nr : Nat} {post : Outcome → va_W → Prop} (C : zx_C p s mi args co b_MO_bits 4 R_MO zB D zcl (zt cB cI cL) (va_A w0 s.heap.size)) {ma tp rp dp wp op bp lp ep kp tn rn n pl k i : Nat} {fl wn on bb bc cw cx cf : Int32} {dt : Nat → Int32} (hr9 : meth.sig.returnType = some .int) (hlk9 : meth.locks = false) (r75 : ((nI k) ≤ (nI i)) → post (.returned (some (.int (nI (zcode dt n pl i))))) [(ma, .inr (5, [.int fl, .ref tp, .int (nI tn), .ref rp, .int (nI rn), .ref dp, .int (nI n), .ref wp, .int wn, .int (nI (pl + i)), .ref op, .int on, .ref bp, .ref lp, .ref ep, .int bb, .int bc, .int cw, .int cx, .int cf, .ref kp])), (dp, .inl (cB, 16384, .inl dt))]) (e20 : (¬ (nI k) ≤ (nI i)) → ((8 : Int32) * (nI n)) = (nI (8 * n))) (k29 : (¬ (nI k) ≤ (nI i)) → ((nI (8 * n)) ≤ (nI (pl + i))) → zx_At p l e R s mi args below meth co (zx_Q below s D zcl w0 kr nr R post) D zcl (va_A w0 s.heap.size) 4 [(0, .ref ma), (1, .int (nI k)), (2, .int (nI (zcode dt n pl i))), (3, .int (nI i))] [(ma, .inr (5, [.int fl, .ref tp, .int (nI tn), .ref rp, .int (nI rn), .ref dp, .int (nI n), .ref wp, .int wn, .int (nI (pl + i)), .ref op, .int on, .ref bp, .ref lp, .ref ep, .int bb, .int bc, .int cw, .int cx, .int cf, .ref kp])), (dp, .inl (cB, 16384, .inl dt))] 0 0 29 [.int (0 : Int32), .ref ma]) (k29_2 : (¬ (nI k) ≤ (nI i)) → (¬ (nI (8 * n)) ≤ (nI (pl + i))) → zx_At p l e R s mi args below meth co (zx_Q below s D zcl w0 kr nr R post) D zcl (va_A w0 s.heap.size) 4 [(0, .ref ma), (1, .int (nI k)), (2, .int (nI (zcode dt n pl i))), (3, .int (nI i))] [(ma, .inr (5, [.int fl, .ref tp, .int (nI tn), .ref rp, .int (nI rn), .ref dp, .int (nI n), .ref wp, .int wn, .int (nI (pl + i)), .ref op, .int on, .ref bp, .ref lp, .ref ep, .int bb, .int bc, .int cw, .int cx, .int cf, .ref kp])), (dp, .inl (cB, 16384, .inl dt))] 0 0 29 [.int (1 : Int32), .ref ma]) : zx_At p l e R s mi args below meth co (zx_Q below s D zcl w0 kr nr R post) D zcl (va_A w0 s.heap.size) 4 [(0, .ref ma), (1, .int (nI k)), (2, .int (nI (zcode dt n pl i))), (3, .int (nI i))] [(ma, .inr (5, [.int fl, .ref tp, .int (nI tn), .ref rp, .int (nI rn), .ref dp, .int (nI n), .ref wp, .int wn, .int (nI (pl + i)), .ref op, .int on, .ref bp, .ref lp, .ref ep, .int bb, .int bc, .int cw, .int cx, .int cf, .ref kp])), (dp, .inl (cB, 16384, .inl dt))] 0 0 4 [] := by
  refine zx_iload_n (pc := 4) C d_MO_bits_4 rfl 3 rfl ?_
  refine zx_iload_n (pc := 5) C d_MO_bits_5 rfl 1 rfl ?_
  refine zx_icmp_ge (pc := 6) C 74 d_MO_bits_6 (by decide) (fun c6 => ?_) (fun c6 => ?_)
  · refine zx_iload_n (pc := 74) C d_MO_bits_74 rfl 2 rfl ?_
    exact zx_iret (pc := 75) C hr9 hlk9 (Nat.zero_le _) (Nat.zero_le _) d_MO_bits_75 (r75 c6)
  · refine zx_aload_n (pc := 9) C d_MO_bits_9 rfl 0 rfl ?_
    refine zx_aload_n (pc := 10) C d_MO_bits_10 rfl 0 rfl ?_
    refine zx_get (pc := 11) (ci := 5) (Cn := R_MO) (T := T_MO) (N := 21) (v := .int (nI (pl + i))) C zu_MO 0 rfl rfl 9 (by decide) zw_712 rfl rfl d_MO_bits_11 ?_
    refine zx_bipush (pc := 14) C d_MO_bits_14 (v := (8 : Int32)) (by decide) ?_
    refine zx_aload_n (pc := 16) C d_MO_bits_16 rfl 0 rfl ?_
    refine zx_get (pc := 17) (ci := 5) (Cn := R_MO) (T := T_MO) (N := 21) (v := .int (nI n)) C zu_MO 0 rfl rfl 6 (by decide) zw_709 rfl rfl d_MO_bits_17 ?_
    refine zx_imul (pc := 20) C d_MO_bits_20 ?_
    refine zx_seti (nI (8 * n)) (e20 c6) ?_
    refine zx_icmp_ge (pc := 21) C 28 d_MO_bits_21 (by decide) (fun c21 => ?_) (fun c21 => ?_)
    · refine zx_iconst (pc := 28) C d_MO_bits_28 (v := (0 : Int32)) (by decide) ?_
      exact k29 c6 c21
    · refine zx_iconst (pc := 24) C d_MO_bits_24 (v := (1 : Int32)) (by decide) ?_
      refine zx_goto (pc := 25) C 29 d_MO_bits_25 (by decide) ?_
      exact k29_2 c6 c21

set_option maxRecDepth 100000 in
set_option maxHeartbeats 4000000 in
theorem sg_MO_bits29 {p : Program} {l : Launch} {e : Env} {s : State} {mi : MethodId} {args : Array Value} {below : List Frame} {meth : Method} {co : Code} {D : va_G} {cB cI cL : ClassId} {w0 : va_W} {kr nr : Nat} {post : Outcome → va_W → Prop} (C : zx_C p s mi args co b_MO_bits 4 R_MO zB D zcl (zt cB cI cL) (va_A w0 s.heap.size)) {ma tp rp dp wp op bp lp ep kp tn rn n pl k i : Nat} {fl wn on bb bc cw cx cf : Int32} {dt : Nat → Int32} {g9 : Int32} (hr9 : meth.sig.returnType = some .int) (hlk9 : meth.locks = false) (hl9 : l.stackTraces = false) (ht9 : co.exceptionTable.toList.map (fun h => (h.startPc, h.endPc, h.handlerPc, h.catchType)) = []) (t29 : (g9 = 0) → ∀ x9 : Nat, post (.threw x9) [(ma, .inr (5, [.int fl, .ref tp, .int (nI tn), .ref rp, .int (nI rn), .ref dp, .int (nI n), .ref wp, .int wn, .int (nI (pl + i)), .ref op, .int on, .ref bp, .ref lp, .ref ep, .int bb, .int bc, .int cw, .int cx, .int cf, .ref kp])), (dp, .inl (cB, 16384, .inl dt)), (x9, .inr (7, []))]) (e42 : (¬ (g9 = 0)) → ((nI (pl + i)) >>> ((3 : Int32) &&& 31)) = (nI ((pl + i) / 8))) (b43 : (¬ (g9 = 0)) → (nI ((pl + i) / 8)) = nI ((pl + i) / 8) ∧ ((pl + i) / 8) < 16384) (e50 : (¬ (g9 = 0)) → ((nI (pl + i)) &&& (7 : Int32)) = (nI ((pl + i) % 8))) (e53 : (¬ (g9 = 0)) → (((dt ((pl + i) / 8)) >>> ((nI ((pl + i) % 8)) &&& 31)) &&& (1 : Int32)) = (nI (zu (dt ((pl + i) / 8)) / 2 ^ ((pl + i) % 8) % 2))) (e56 : (¬ (g9 = 0)) → ((nI (zcode dt n pl i)) ||| ((nI (zu (dt ((pl + i) / 8)) / 2 ^ ((pl + i) % 8) % 2)) <<< ((nI i) &&& 31))) = (nI (zcode dt n pl (i + 1)))) (e64 : (¬ (g9 = 0)) → ((nI (pl + i)) + (1 : Int32)) = (nI (pl + (i + 1)))) (e68 : (¬ (g9 = 0)) → (nI i) + (1 : Int32) = (nI (i + 1))) (k4 : (¬ (g9 = 0)) → zx_At p l e (zr 9 1 6) s mi args below meth co (zx_Q below s D zcl w0 kr nr (zr 9 1 6) post) D zcl (va_A w0 s.heap.size) 4 [(0, .ref ma), (1, .int (nI k)), (2, .int (nI (zcode dt n pl (i + 1)))), (3, .int (nI (i + 1)))] [(ma, .inr (5, [.int fl, .ref tp, .int (nI tn), .ref rp, .int (nI rn), .ref dp, .int (nI n), .ref wp, .int wn, .int (nI (pl + (i + 1))), .ref op, .int on, .ref bp, .ref lp, .ref ep, .int bb, .int bc, .int cw, .int cx, .int cf, .ref kp])), (dp, .inl (cB, 16384, .inl dt))] 0 0 4 []) : zx_At p l e (zr 9 1 6) s mi args below meth co (zx_Q below s D zcl w0 kr nr (zr 9 1 6) post) D zcl (va_A w0 s.heap.size) 4 [(0, .ref ma), (1, .int (nI k)), (2, .int (nI (zcode dt n pl i))), (3, .int (nI i))] [(ma, .inr (5, [.int fl, .ref tp, .int (nI tn), .ref rp, .int (nI rn), .ref dp, .int (nI n), .ref wp, .int wn, .int (nI (pl + i)), .ref op, .int on, .ref bp, .ref lp, .ref ep, .int bb, .int bc, .int cw, .int cx, .int cf, .ref kp])), (dp, .inl (cB, 16384, .inl dt))] 0 0 29 [.int g9, .ref ma] := by
  refine zx_callV (pc := 29) (ix := 53) (As := [.int g9]) (b := ma) (q0 := 0) (wr := [(ma, .inr (5, [.int fl, .ref tp, .int (nI tn), .ref rp, .int (nI rn), .ref dp, .int (nI n), .ref wp, .int wn, .int (nI (pl + i)), .ref op, .int on, .ref bp, .ref lp, .ref ep, .int bb, .int bc, .int cw, .int cx, .int cf, .ref kp])), (dp, .inl (cB, 16384, .inl dt))]) (st := []) C (zx_cw.of (C.w zw_792)) (by decide +kernel) ⟨by decide +kernel, by decide +kernel⟩ zw_791 zs_MO_can zw_789 rfl rfl rfl rfl rfl (k_MO_can l D cB cI cL hl9 ma g9) rfl [] [0, 1] rfl rfl (by decide) (by decide) (by decide) (Nat.le_of_ble_eq_true rfl) (Nat.le_of_ble_eq_true rfl) (Nat.le_of_ble_eq_true rfl) (Nat.le_of_ble_eq_true rfl) d_MO_bits_29 (fun o w1 hp => ?_)
  rcases hp with ⟨hc29, x9, rfl, rfl⟩ | ⟨hc29, rfl, rfl⟩
  · exact zx_rt (k2 := 1) (n2 := 6) rfl rfl (zx_leave hlk9 (zx_noTab ht9 _) (Nat.le_of_ble_eq_true rfl) (Nat.le_of_ble_eq_true rfl) (t29 hc29 x9))
  · refine zx_rv (k2 := 0) (n2 := 0) rfl rfl ?_
    refine zx_ws (ws' := [(ma, .inr (5, [.int fl, .ref tp, .int (nI tn), .ref rp, .int (nI rn), .ref dp, .int (nI n), .ref wp, .int wn, .int (nI (pl + i)), .ref op, .int on, .ref bp, .ref lp, .ref ep, .int bb, .int bc, .int cw, .int cx, .int cf, .ref kp])), (dp, .inl (cB, 16384, .inl dt))]) [0, 1] (by decide) rfl ?_
    refine zx_iload_n (pc := 32) C d_MO_bits_32 rfl 2 rfl ?_
    refine zx_aload_n (pc := 33) C d_MO_bits_33 rfl 0 rfl ?_
    refine zx_get (pc := 34) (ci := 5) (Cn := R_MO) (T := T_MO) (N := 21) (v := .ref dp) C zu_MO 0 rfl rfl 5 (by decide) zw_708 rfl rfl d_MO_bits_34 ?_
    refine zx_aload_n (pc := 37) C d_MO_bits_37 rfl 0 rfl ?_
    refine zx_get (pc := 38) (ci := 5) (Cn := R_MO) (T := T_MO) (N := 21) (v := .int (nI (pl + i))) C zu_MO 0 rfl rfl 9 (by decide) zw_712 rfl rfl d_MO_bits_38 ?_
    refine zx_iconst (pc := 41) C d_MO_bits_41 (v := (3 : Int32)) (by decide) ?_
    refine zx_ishr (pc := 42) C d_MO_bits_42 ?_
    refine zx_seti (nI ((pl + i) / 8)) (e42 hc29) ?_
    refine zx_bald (pc := 43) C 1 0 rfl rfl ((pl + i) / 8) (b43 hc29).1 (b43 hc29).2 (by decide) d_MO_bits_43 ?_
    refine zx_aload_n (pc := 44) C d_MO_bits_44 rfl 0 rfl ?_
    refine zx_get (pc := 45) (ci := 5) (Cn := R_MO) (T := T_MO) (N := 21) (v := .int (nI (pl + i))) C zu_MO 0 rfl rfl 9 (by decide) zw_712 rfl rfl d_MO_bits_45 ?_
    refine zx_bipush (pc := 48) C d_MO_bits_48 (v := (7 : Int32)) (by decide) ?_
    refine zx_iand (pc := 50) C d_MO_bits_50 ?_
    refine zx_seti (nI ((pl + i) % 8)) (e50 hc29) ?_
    refine zx_ishr (pc := 51) C d_MO_bits_51 ?_
    refine zx_iconst (pc := 52) C d_MO_bits_52 (v := (1 : Int32)) (by decide) ?_
    refine zx_iand (pc := 53) C d_MO_bits_53 ?_
    refine zx_seti (nI (zu (dt ((pl + i) / 8)) / 2 ^ ((pl + i) % 8) % 2)) (e53 hc29) ?_
    refine zx_iload_n (pc := 54) C d_MO_bits_54 rfl 3 rfl ?_
    refine zx_ishl (pc := 55) C d_MO_bits_55 ?_
    refine zx_ior (pc := 56) C d_MO_bits_56 ?_
    refine zx_seti (nI (zcode dt n pl (i + 1))) (e56 hc29) ?_
    refine zx_istore_n (pc := 57) C d_MO_bits_57 rfl (by decide) (lv' := [(2, .int (nI (zcode dt n pl (i + 1)))), (0, .ref ma), (1, .int (nI k)), (3, .int (nI i))]) rfl ?_
    refine zx_aload_n (pc := 58) C d_MO_bits_58 rfl 1 rfl ?_
    refine zx_dup (pc := 59) C d_MO_bits_59 rfl ?_
    refine zx_get (pc := 60) (ci := 5) (Cn := R_MO) (T := T_MO) (N := 21) (v := .int (nI (pl + i))) C zu_MO 0 rfl rfl 9 (by decide) zw_712 rfl rfl d_MO_bits_60 ?_
    refine zx_iconst (pc := 63) C d_MO_bits_63 (v := (1 : Int32)) (by decide) ?_
    refine zx_iadd (pc := 64) C d_MO_bits_64 ?_
    refine zx_seti (nI (pl + (i + 1))) (e64 hc29) ?_
    refine zx_put (pc := 65) (ci := 5) (Cn := R_MO) (T := T_MO) (N := 21) (v := .int (nI (pl + (i + 1)))) (ty := .int) (ws' := [(ma, .inr (5, [.int fl, .ref tp, .int (nI tn), .ref rp, .int (nI rn), .ref dp, .int (nI n), .ref wp, .int wn, .int (nI (pl + (i + 1))), .ref op, .int on, .ref bp, .ref lp, .ref ep, .int bb, .int bc, .int cw, .int cx, .int cf, .ref kp])), (dp, .inl (cB, 16384, .inl dt))]) C zu_MO ty_MO tyk_MO nm_MO 0 rfl rfl 9 (by decide) zw_712 rfl rfl (by decide +kernel) rfl rfl (Nat.le_of_ble_eq_true rfl) rfl d_MO_bits_65 ?_
    refine zx_iinc (pc := 68) C d_MO_bits_68 3 rfl (v := (nI (i + 1))) (e68 hc29) (by decide) (lv' := [(3, .int (nI (i + 1))), (2, .int (nI (zcode dt n pl (i + 1)))), (0, .ref ma), (1, .int (nI k))]) rfl ?_
    refine zx_goto (pc := 71) C 4 d_MO_bits_71 (by decide) ?_
    refine zx_lv (lv' := [(0, .ref ma), (1, .int (nI k)), (2, .int (nI (zcode dt n pl (i + 1)))), (3, .int (nI (i + 1)))]) [2, 3, 1, 0] rfl ?_
    exact k4 hc29

theorem k_MO_bits (l : Launch) (D : va_G) (cB cI cL : ClassId) (hl : l.stackTraces = false) (ma tp rp dp wp op bp lp ep kp tn rn n pl k : Nat) (fl wn on bb bc cw cx cf : Int32) (dt : Nat → Int32) (hn : n ≤ 16384) (hk : k ≤ 12) (hpl : pl ≤ 8 * n) : zx_K l zB D zcl (zt cB cI cL) y_MO_bits b_MO_bits 4 (some .int) [] 0 0 (zr 9 1 6) [.ref ma, .int (nI k)] [(ma, .inr (5, [.int fl, .ref tp, .int (nI tn), .ref rp, .int (nI rn), .ref dp, .int (nI n), .ref wp, .int wn, .int (nI pl), .ref op, .int on, .ref bp, .ref lp, .ref ep, .int bb, .int bc, .int cw, .int cx, .int cf, .ref kp])), (dp, .inl (cB, 16384, .inl dt))] (fun o w => ((pl + k ≤ 8 * n) ∧ o = .returned (some (.int (nI (zcode dt n pl k)))) ∧ w = [(ma, .inr (5, [.int fl, .ref tp, .int (nI tn), .ref rp, .int (nI rn), .ref dp, .int (nI n), .ref wp, .int wn, .int (nI (pl + k)), .ref op, .int on, .ref bp, .ref lp, .ref ep, .int bb, .int bc, .int cw, .int cx, .int cf, .ref kp])), (dp, .inl (cB, 16384, .inl dt))]) ∨ (∃ b8 : Int32, (8 * n < pl + k) ∧ ∃ x0 : Nat, o = .threw x0 ∧ w = [(ma, .inr (5, [.int fl, .ref tp, .int (nI tn), .ref rp, .int (nI rn), .ref dp, .int (nI n), .ref wp, .int wn, .int b8, .ref op, .int on, .ref bp, .ref lp, .ref ep, .int bb, .int bc, .int cw, .int cx, .int cf, .ref kp])), (dp, .inl (cB, 16384, .inl dt)), (x0, .inr (7, []))])) := by
  refine zx_K.mk (Nat.le_of_ble_eq_true rfl) (fun p e s mm below meth c9 C hr hlk ht hnm => ?_)
  have loop : ∀ (d i : Nat), i + d = k → pl + i ≤ 8 * n → zx_At p l e (zr 9 1 6) s mm (([.ref ma, .int (nI k)] : List Value)).toArray below meth c9 (zx_Q below s D zcl [(ma, .inr (5, [.int fl, .ref tp, .int (nI tn), .ref rp, .int (nI rn), .ref dp, .int (nI n), .ref wp, .int wn, .int (nI pl), .ref op, .int on, .ref bp, .ref lp, .ref ep, .int bb, .int bc, .int cw, .int cx, .int cf, .ref kp])), (dp, .inl (cB, 16384, .inl dt))] 0 0 (zr 9 1 6) (fun o w => ((pl + k ≤ 8 * n) ∧ o = .returned (some (.int (nI (zcode dt n pl k)))) ∧ w = [(ma, .inr (5, [.int fl, .ref tp, .int (nI tn), .ref rp, .int (nI rn), .ref dp, .int (nI n), .ref wp, .int wn, .int (nI (pl + k)), .ref op, .int on, .ref bp, .ref lp, .ref ep, .int bb, .int bc, .int cw, .int cx, .int cf, .ref kp])), (dp, .inl (cB, 16384, .inl dt))]) ∨ (∃ b8 : Int32, (8 * n < pl + k) ∧ ∃ x0 : Nat, o = .threw x0 ∧ w = [(ma, .inr (5, [.int fl, .ref tp, .int (nI tn), .ref rp, .int (nI rn), .ref dp, .int (nI n), .ref wp, .int wn, .int b8, .ref op, .int on, .ref bp, .ref lp, .ref ep, .int bb, .int bc, .int cw, .int cx, .int cf, .ref kp])), (dp, .inl (cB, 16384, .inl dt)), (x0, .inr (7, []))]))) D zcl (va_A [(ma, .inr (5, [.int fl, .ref tp, .int (nI tn), .ref rp, .int (nI rn), .ref dp, .int (nI n), .ref wp, .int wn, .int (nI pl), .ref op, .int on, .ref bp, .ref lp, .ref ep, .int bb, .int bc, .int cw, .int cx, .int cf, .ref kp])), (dp, .inl (cB, 16384, .inl dt))] s.heap.size) 4 [(0, .ref ma), (1, .int (nI k)), (2, .int (nI (zcode dt n pl i))), (3, .int (nI i))] [(ma, .inr (5, [.int fl, .ref tp, .int (nI tn), .ref rp, .int (nI rn), .ref dp, .int (nI n), .ref wp, .int wn, .int (nI (pl + i)), .ref op, .int on, .ref bp, .ref lp, .ref ep, .int bb, .int bc, .int cw, .int cx, .int cf, .ref kp])), (dp, .inl (cB, 16384, .inl dt))] 0 0 4 [] := by
    intro d
    induction d with
    | zero =>
      intro i hi hp
      have key : nI k ≤ nI i := by rw [show i = k by omega]; exact Int32.le_refl _
      have hik : i = k := by omega
      exact sg_MO_bits4 C hr hlk (fun _ => Or.inl ⟨by omega, by rw [hik], by rw [hik]⟩) (fun z => absurd key z) (fun z => absurd key z) (fun z => absurd key z)
    | succ d ih =>
      intro i hi hp
      have nk : ¬ nI k ≤ nI i := fun z => absurd ((nI_leI (by omega) (by omega)).mp z) (by omega)
      have kk : nI (8 * n) ≤ nI (pl + i) ↔ 8 * n ≤ pl + i := nI_leI (by omega) (by omega)
      have nx : ∀ g9 : Int32, (¬ g9 = 0 → pl + i < 8 * n) → (g9 = 0 → 8 * n < pl + k) → zx_At p l e (zr 9 1 6) s mm (([.ref ma, .int (nI k)] : List Value)).toArray below meth c9 (zx_Q below s D zcl [(ma, .inr (5, [.int fl, .ref tp, .int (nI tn), .ref rp, .int (nI rn), .ref dp, .int (nI n), .ref wp, .int wn, .int (nI pl), .ref op, .int on, .ref bp, .ref lp, .ref ep, .int bb, .int bc, .int cw, .int cx, .int cf, .ref kp])), (dp, .inl (cB, 16384, .inl dt))] 0 0 (zr 9 1 6) (fun o w => ((pl + k ≤ 8 * n) ∧ o = .returned (some (.int (nI (zcode dt n pl k)))) ∧ w = [(ma, .inr (5, [.int fl, .ref tp, .int (nI tn), .ref rp, .int (nI rn), .ref dp, .int (nI n), .ref wp, .int wn, .int (nI (pl + k)), .ref op, .int on, .ref bp, .ref lp, .ref ep, .int bb, .int bc, .int cw, .int cx, .int cf, .ref kp])), (dp, .inl (cB, 16384, .inl dt))]) ∨ (∃ b8 : Int32, (8 * n < pl + k) ∧ ∃ x0 : Nat, o = .threw x0 ∧ w = [(ma, .inr (5, [.int fl, .ref tp, .int (nI tn), .ref rp, .int (nI rn), .ref dp, .int (nI n), .ref wp, .int wn, .int b8, .ref op, .int on, .ref bp, .ref lp, .ref ep, .int bb, .int bc, .int cw, .int cx, .int cf, .ref kp])), (dp, .inl (cB, 16384, .inl dt)), (x0, .inr (7, []))]))) D zcl (va_A [(ma, .inr (5, [.int fl, .ref tp, .int (nI tn), .ref rp, .int (nI rn), .ref dp, .int (nI n), .ref wp, .int wn, .int (nI pl), .ref op, .int on, .ref bp, .ref lp, .ref ep, .int bb, .int bc, .int cw, .int cx, .int cf, .ref kp])), (dp, .inl (cB, 16384, .inl dt))] s.heap.size) 4 [(0, .ref ma), (1, .int (nI k)), (2, .int (nI (zcode dt n pl i))), (3, .int (nI i))] [(ma, .inr (5, [.int fl, .ref tp, .int (nI tn), .ref rp, .int (nI rn), .ref dp, .int (nI n), .ref wp, .int wn, .int (nI (pl + i)), .ref op, .int on, .ref bp, .ref lp, .ref ep, .int bb, .int bc, .int cw, .int cx, .int cf, .ref kp])), (dp, .inl (cB, 16384, .inl dt))] 0 0 29 [.int g9, .ref ma] := fun g9 hg hg2 => by
        refine sg_MO_bits29 C hr hlk hl ht (fun z x0 => Or.inr ⟨_, hg2 z, x0, rfl, rfl⟩) (fun z => zp_shr (k := 3) (by omega) (by omega)) (fun z => ⟨rfl, by have := hg z; omega⟩) (fun z => pk_andN (by omega) 3 (by decide)) (fun z => zbit _ (Nat.mod_lt _ (by decide))) (fun z => ?_) (fun z => nI_1 _) (fun z => nI_1 i) (fun z => ih (i + 1) (by omega) (by have := hg z; omega))
        rw [zcode_s, zbitN (hg z)]
        exact zp_or (zcode_lt _ _ _ _) (by omega)
      refine sg_MO_bits4 C hr hlk (fun z => absurd z nk) (fun _ => pk_mul 8 n) (fun _ z => nx _ (fun h => absurd rfl h) (fun _ => by have := kk.mp z; omega)) (fun _ z => nx _ (fun _ => by have := mt kk.mpr z; omega) (fun h => absurd h (by decide)))
  exact sg_MO_bits0 C (by
    have h0 := loop k 0 (by omega) (by omega)
    rw [show zcode dt n pl 0 = 0 by unfold zcode; omega] at h0
    exact h0)
