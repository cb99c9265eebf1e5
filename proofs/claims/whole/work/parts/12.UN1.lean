/-- a byte's number; the number that n bytes are, the first one lowest -/
def zu (x : Int32) : Nat := x.toBitVec.toNat % 256
theorem zu_lt (x : Int32) : zu x < 256 := Nat.mod_lt _ (by decide)
theorem zu_and (x : Int32) : x &&& 255 = nI (zu x) := pk_and x 8 (by decide)
def zN (f : Nat → Int32) : Nat → Nat
  | 0 => 0
  | n + 1 => zN f n + zu (f n) * 256 ^ n
theorem zN_lt (f : Nat → Int32) : ∀ n, zN f n < 256 ^ n
  | 0 => by simp [zN]
  | n + 1 => by
    have h1 := zN_lt f n
    have h2 := zu_lt (f n)
    have h3 : zu (f n) * 256 ^ n ≤ 255 * 256 ^ n := Nat.mul_le_mul_right _ (by omega)
    rw [zN, Nat.pow_succ]
    omega
theorem zN_dig (f : Nat → Int32) (j : Nat) : ∀ n, zN f n / 256 ^ j % 256 = if j < n then zu (f j) else 0
  | 0 => by simp [zN]
  | n + 1 => by
    have ih := zN_dig f j n
    have h1 := zN_lt f n
    have hp : 0 < 256 ^ j := Nat.pow_pos (by decide)
    rw [zN]
    by_cases q : j < n
    · rw [if_pos (by omega)]
      rw [if_pos q] at ih
      have e1 : zu (f n) * 256 ^ n = 256 ^ j * (256 * (zu (f n) * 256 ^ (n - j - 1))) := by
        have e2 : 256 ^ n = 256 ^ j * (256 * 256 ^ (n - j - 1)) := by
          rw [← Nat.pow_succ', ← Nat.pow_add]
          congr 1
          omega
        rw [e2, Nat.mul_left_comm, Nat.mul_left_comm (zu (f n))]
      rw [e1, Nat.add_mul_div_left _ _ hp, Nat.add_mul_mod_self_left]
      exact ih
    · by_cases q2 : j = n
      · subst q2
        rw [if_pos (by omega), Nat.mul_comm, Nat.add_mul_div_left _ _ hp, Nat.div_eq_of_lt h1, Nat.zero_add]
        exact Nat.mod_eq_of_lt (zu_lt _)
      · rw [if_neg (by omega)]
        have h2 := zN_lt f (n + 1)
        rw [zN] at h2
        have h3 : 256 ^ (n + 1) ≤ 256 ^ j := Nat.pow_le_pow_right (by decide) (by omega)
        rw [Nat.div_eq_of_lt (by omega)]
/-- the code of k bits at a place -/
def zcode (f : Nat → Int32) (n place k : Nat) : Nat := zN f n / 2 ^ place % 2 ^ k
theorem zp_or32 {v c wb : Nat} (hv : v < 2 ^ wb) (hwb : wb < 32) : nI v ||| (nI c <<< (nI wb &&& 31)) = nI (v + c * 2 ^ wb) := by
  have h1 : nI c <<< (nI wb &&& 31) = nI (c * 2 ^ wb) := by
    have h2 : ∀ k, k < 32 → ((nI k &&& 31).toBitVec.smod 32).toNat = k := by decide +kernel
    unfold nI
    apply Int32.toBitVec_inj.mp
    apply BitVec.eq_of_toNat_eq
    have h3 := pk_shl (nI c) (nI wb &&& 31) wb (h2 wb hwb)
    unfold nI at h3
    rw [h3]
    simp [Nat.mul_mod]
  rw [h1]
  unfold nI
  apply Int32.toBitVec_inj.mp
  apply BitVec.eq_of_toNat_eq
  simp only [Int32.toBitVec_or, BitVec.toNat_or, Int32.toBitVec_ofNat', BitVec.toNat_ofNat]
  rw [← Nat.or_mod_two_pow, Nat.mul_comm c, Nat.or_comm, ← Nat.two_pow_add_eq_or_of_lt hv, Nat.add_comm]
theorem zp_shr {v k : Nat} (hv : v < 2 ^ 31) (hk : k < 32) : nI v >>> (nI k &&& 31) = nI (v / 2 ^ k) := by
  have h2 : ∀ k, k < 32 → ((nI k &&& 31).toBitVec.smod 32).toNat = k := by decide +kernel
  exact pk_shrN hv _ k (h2 k hk)
theorem zp_mask {v k : Nat} (hv : v < 2 ^ 32) (hk : k < 32) : nI v &&& nI (2 ^ k - 1) = nI (v % 2 ^ k) := by
  refine pk_andN hv k ?_
  exact pk_tn (Nat.lt_of_le_of_lt (Nat.sub_le _ _) (Nat.pow_lt_pow_right (by decide) hk))
theorem zX_step (X k : Nat) : X % 256 ^ (k + 1) = X % 256 ^ k + (X / 256 ^ k % 256) * 2 ^ (8 * k) := by
  rw [show 2 ^ (8 * k) = 256 ^ k by rw [Nat.pow_mul], Nat.pow_succ, Nat.mod_mul, Nat.mul_comm (256 ^ k)]
theorem zX_code {N place k : Nat} (hk : k ≤ 12) : (N / 256 ^ (place / 8) % 256 ^ 3) / 2 ^ (place % 8) % 2 ^ k = N / 2 ^ place % 2 ^ k := by
  have e1 : (256 : Nat) ^ (place / 8) = 2 ^ (8 * (place / 8)) := by rw [Nat.pow_mul]
  have e2 : (256 : Nat) ^ 3 = 2 ^ (place % 8) * 2 ^ (24 - place % 8) := by
    rw [← Nat.pow_add, show place % 8 + (24 - place % 8) = 24 by omega]
  have e3 : (2 : Nat) ^ (24 - place % 8) = 2 ^ k * 2 ^ (24 - place % 8 - k) := by
    rw [← Nat.pow_add]; congr 1; omega
  rw [e2, Nat.mod_mul_right_div_self, e3, Nat.mod_mul_right_mod, e1, Nat.div_div_eq_div_mul, ← Nat.pow_add, show 8 * (place / 8) + place % 8 = place by omega]
set_option maxRecDepth 100000 in
set_option maxHeartbeats 4000000 in
theorem sg_UN_codeAt {p : Program} {l : Launch} {e : Env} {R : Room} {s : State} {m : MethodId} {args : Array Value} {below : List Frame} {meth : Method} {c : Code} {D : va_G} {cB cI cL : ClassId} {Q : State → Prop} {A : Nat → Prop} (C : zx_C p s m args c b_UN_codeAt 7 R_UN zB D zcl (zt cB cI cL) A) {t n pl k : Nat} {f : Nat → Int32} (e5 : ((nI pl) >>> ((3 : Int32) &&& 31)) = (nI (pl / 8))) (k11 : zx_At p l e R s m args below meth c Q D zcl A 7 [(0, .ref t), (1, .int (nI n)), (2, .int (nI pl)), (3, .int (nI k)), (4, .int (0 : Int32)), (5, .int (nI (pl / 8))), (6, .int (0 : Int32))] [(t, .inl (cB, 16384, .inl f))] 0 0 11 []) : zx_At p l e R s m args below meth c Q D zcl A 7 [(0, .ref t), (1, .int (nI n)), (2, .int (nI pl)), (3, .int (nI k))] [(t, .inl (cB, 16384, .inl f))] 0 0 0 [] := by
  refine zx_iconst (pc := 0) C d_UN_codeAt_0 (v := (0 : Int32)) (by decide) ?_
  refine zx_istore (pc := 1) C d_UN_codeAt_1 (by decide) (lv' := [(4, .int (0 : Int32)), (0, .ref t), (1, .int (nI n)), (2, .int (nI pl)), (3, .int (nI k))]) rfl ?_
  refine zx_iload_n (pc := 3) C d_UN_codeAt_3 rfl 3 rfl ?_
  refine zx_iconst (pc := 4) C d_UN_codeAt_4 (v := (3 : Int32)) (by decide) ?_
  refine zx_ishr (pc := 5) C d_UN_codeAt_5 ?_
  refine zx_seti (nI (pl / 8)) (e5) ?_
  refine zx_istore (pc := 6) C d_UN_codeAt_6 (by decide) (lv' := [(5, .int (nI (pl / 8))), (4, .int (0 : Int32)), (0, .ref t), (1, .int (nI n)), (2, .int (nI pl)), (3, .int (nI k))]) rfl ?_
  refine zx_iconst (pc := 8) C d_UN_codeAt_8 (v := (0 : Int32)) (by decide) ?_
  refine zx_istore (pc := 9) C d_UN_codeAt_9 (by decide) (lv' := [(6, .int (0 : Int32)), (5, .int (nI (pl / 8))), (4, .int (0 : Int32)), (0, .ref t), (1, .int (nI n)), (2, .int (nI pl)), (3, .int (nI k))]) rfl ?_
  refine zx_lv (lv' := [(0, .ref t), (1, .int (nI n)), (2, .int (nI pl)), (3, .int (nI k)), (4, .int (0 : Int32)), (5, .int (nI (pl / 8))), (6, .int (0 : Int32))]) [3, 4, 5, 6, 2, 1, 0] rfl ?_
  exact k11

set_option maxRecDepth 100000 in
set_option maxHeartbeats 4000000 in
theorem sg_UN_codeAt54 {p : Program} {l : Launch} {e : Env} {R : Room} {s : State} {m : MethodId} {args : Array Value} {below : List Frame} {meth : Method} {c : Code} {D : va_G} {cB cI cL : ClassId} {w0 : va_W} {kr nr : Nat} {post : Outcome → va_W → Prop} (C : zx_C p s m args c b_UN_codeAt 7 R_UN zB D zcl (zt cB cI cL) (va_A w0 s.heap.size)) {t n pl k w : Nat} {f : Nat → Int32} (hr9 : meth.sig.returnType = some .int) (hlk9 : meth.locks = false) (e59 : ((nI pl) &&& (7 : Int32)) = (nI (pl % 8))) (e60 : ((nI w) >>> ((nI (pl % 8)) &&& 31)) = (nI (w / 2 ^ (pl % 8)))) (e63 : ((1 : Int32) <<< ((nI k) &&& 31)) = (nI (2 ^ k))) (e65 : ((nI (2 ^ k)) - (1 : Int32)) = (nI (2 ^ k - 1))) (e66 : ((nI (w / 2 ^ (pl % 8))) &&& (nI (2 ^ k - 1))) = (nI (w / 2 ^ (pl % 8) % 2 ^ k))) (r67 : post (.returned (some (.int (nI (w / 2 ^ (pl % 8) % 2 ^ k))))) [(t, .inl (cB, 16384, .inl f))]) : zx_At p l e R s m args below meth c (zx_Q below s D zcl w0 kr nr R post) D zcl (va_A w0 s.heap.size) 7 [(0, .ref t), (1, .int (nI n)), (2, .int (nI pl)), (3, .int (nI k)), (4, .int (nI w))] [(t, .inl (cB, 16384, .inl f))] 0 0 54 [] := by
  refine zx_iload (pc := 54) C d_UN_codeAt_54 4 rfl ?_
  refine zx_iload_n (pc := 56) C d_UN_codeAt_56 rfl 2 rfl ?_
  refine zx_bipush (pc := 57) C d_UN_codeAt_57 (v := (7 : Int32)) (by decide) ?_
  refine zx_iand (pc := 59) C d_UN_codeAt_59 ?_
  refine zx_seti (nI (pl % 8)) (e59) ?_
  refine zx_ishr (pc := 60) C d_UN_codeAt_60 ?_
  refine zx_seti (nI (w / 2 ^ (pl % 8))) (e60) ?_
  refine zx_iconst (pc := 61) C d_UN_codeAt_61 (v := (1 : Int32)) (by decide) ?_
  refine zx_iload_n (pc := 62) C d_UN_codeAt_62 rfl 3 rfl ?_
  refine zx_ishl (pc := 63) C d_UN_codeAt_63 ?_
  refine zx_seti (nI (2 ^ k)) (e63) ?_
  refine zx_iconst (pc := 64) C d_UN_codeAt_64 (v := (1 : Int32)) (by decide) ?_
  refine zx_isub (pc := 65) C d_UN_codeAt_65 ?_
  refine zx_seti (nI (2 ^ k - 1)) (e65) ?_
  refine zx_iand (pc := 66) C d_UN_codeAt_66 ?_
  refine zx_seti (nI (w / 2 ^ (pl % 8) % 2 ^ k)) (e66) ?_
  exact zx_iret (pc := 67) C hr9 hlk9 (Nat.zero_le _) (Nat.zero_le _) d_UN_codeAt_67 (r67)

set_option maxRecDepth 100000 in
set_option maxHeartbeats 4000000 in
theorem sg_UN_codeAt11 {p : Program} {l : Launch} {e : Env} {R : Room} {s : State} {m : MethodId} {args : Array Value} {below : List Frame} {meth : Method} {c : Code} {D : va_G} {cB cI cL : ClassId} {Q : State → Prop} {A : Nat → Prop} (C : zx_C p s m args c b_UN_codeAt 7 R_UN zB D zcl (zt cB cI cL) A) {t n pl k i q w : Nat} {f : Nat → Int32} (k54 : ((3 : Int32) ≤ (nI i)) → zx_At p l e R s m args below meth c Q D zcl A 7 [(0, .ref t), (1, .int (nI n)), (2, .int (nI pl)), (3, .int (nI k)), (4, .int (nI w))] [(t, .inl (cB, 16384, .inl f))] 0 0 54 []) (e21 : (¬ (3 : Int32) ≤ (nI i)) → ((nI q) + (nI i)) = (nI (q + i))) (k54_2 : (¬ (3 : Int32) ≤ (nI i)) → ((nI n) ≤ (nI (q + i))) → zx_At p l e R s m args below meth c Q D zcl A 7 [(0, .ref t), (1, .int (nI n)), (2, .int (nI pl)), (3, .int (nI k)), (4, .int (nI w))] [(t, .inl (cB, 16384, .inl f))] 0 0 54 []) (e33 : (¬ (3 : Int32) ≤ (nI i)) → (¬ (nI n) ≤ (nI (q + i))) → ((nI q) + (nI i)) = (nI (q + i))) (b34 : (¬ (3 : Int32) ≤ (nI i)) → (¬ (nI n) ≤ (nI (q + i))) → (nI (q + i)) = nI (q + i) ∧ (q + i) < 16384) (e38 : (¬ (3 : Int32) ≤ (nI i)) → (¬ (nI n) ≤ (nI (q + i))) → ((f (q + i)) &&& (255 : Int32)) = (nI (zu (f (q + i))))) (e43 : (¬ (3 : Int32) ≤ (nI i)) → (¬ (nI n) ≤ (nI (q + i))) → ((8 : Int32) * (nI i)) = (nI (8 * i))) (e45 : (¬ (3 : Int32) ≤ (nI i)) → (¬ (nI n) ≤ (nI (q + i))) → ((nI w) ||| ((nI (zu (f (q + i)))) <<< ((nI (8 * i)) &&& 31))) = (nI (w + zu (f (q + i)) * 2 ^ (8 * i)))) (e48 : (¬ (3 : Int32) ≤ (nI i)) → (¬ (nI n) ≤ (nI (q + i))) → (nI i) + (1 : Int32) = (nI (i + 1))) (k11 : (¬ (3 : Int32) ≤ (nI i)) → (¬ (nI n) ≤ (nI (q + i))) → zx_At p l e R s m args below meth c Q D zcl A 7 [(0, .ref t), (1, .int (nI n)), (2, .int (nI pl)), (3, .int (nI k)), (4, .int (nI (w + zu (f (q + i)) * 2 ^ (8 * i)))), (5, .int (nI q)), (6, .int (nI (i + 1)))] [(t, .inl (cB, 16384, .inl f))] 0 0 11 []) : zx_At p l e R s m args below meth c Q D zcl A 7 [(0, .ref t), (1, .int (nI n)), (2, .int (nI pl)), (3, .int (nI k)), (4, .int (nI w)), (5, .int (nI q)), (6, .int (nI i))] [(t, .inl (cB, 16384, .inl f))] 0 0 11 [] := by
  refine zx_iload (pc := 11) C d_UN_codeAt_11 6 rfl ?_
  refine zx_iconst (pc := 13) C d_UN_codeAt_13 (v := (3 : Int32)) (by decide) ?_
  refine zx_icmp_ge (pc := 14) C 54 d_UN_codeAt_14 (by decide) (fun c14 => ?_) (fun c14 => ?_)
  · refine zx_lv (lv' := [(0, .ref t), (1, .int (nI n)), (2, .int (nI pl)), (3, .int (nI k)), (4, .int (nI w))]) [0, 1, 2, 3, 4] rfl ?_
    exact k54 c14
  · refine zx_iload (pc := 17) C d_UN_codeAt_17 5 rfl ?_
    refine zx_iload (pc := 19) C d_UN_codeAt_19 6 rfl ?_
    refine zx_iadd (pc := 21) C d_UN_codeAt_21 ?_
    refine zx_seti (nI (q + i)) (e21 c14) ?_
    refine zx_iload_n (pc := 22) C d_UN_codeAt_22 rfl 1 rfl ?_
    refine zx_icmp_ge (pc := 23) C 54 d_UN_codeAt_23 (by decide) (fun c23 => ?_) (fun c23 => ?_)
    · refine zx_lv (lv' := [(0, .ref t), (1, .int (nI n)), (2, .int (nI pl)), (3, .int (nI k)), (4, .int (nI w))]) [0, 1, 2, 3, 4] rfl ?_
      exact k54_2 c14 c23
    · refine zx_iload (pc := 26) C d_UN_codeAt_26 4 rfl ?_
      refine zx_aload_n (pc := 28) C d_UN_codeAt_28 rfl 0 rfl ?_
      refine zx_iload (pc := 29) C d_UN_codeAt_29 5 rfl ?_
      refine zx_iload (pc := 31) C d_UN_codeAt_31 6 rfl ?_
      refine zx_iadd (pc := 33) C d_UN_codeAt_33 ?_
      refine zx_seti (nI (q + i)) (e33 c14 c23) ?_
      refine zx_bald (pc := 34) C 0 0 rfl rfl (q + i) (b34 c14 c23).1 (b34 c14 c23).2 (by decide) d_UN_codeAt_34 ?_
      refine zx_sipush (pc := 35) C d_UN_codeAt_35 (v := (255 : Int32)) (by decide) ?_
      refine zx_iand (pc := 38) C d_UN_codeAt_38 ?_
      refine zx_seti (nI (zu (f (q + i)))) (e38 c14 c23) ?_
      refine zx_bipush (pc := 39) C d_UN_codeAt_39 (v := (8 : Int32)) (by decide) ?_
      refine zx_iload (pc := 41) C d_UN_codeAt_41 6 rfl ?_
      refine zx_imul (pc := 43) C d_UN_codeAt_43 ?_
      refine zx_seti (nI (8 * i)) (e43 c14 c23) ?_
      refine zx_ishl (pc := 44) C d_UN_codeAt_44 ?_
      refine zx_ior (pc := 45) C d_UN_codeAt_45 ?_
      refine zx_seti (nI (w + zu (f (q + i)) * 2 ^ (8 * i))) (e45 c14 c23) ?_
      refine zx_istore (pc := 46) C d_UN_codeAt_46 (by decide) (lv' := [(4, .int (nI (w + zu (f (q + i)) * 2 ^ (8 * i)))), (0, .ref t), (1, .int (nI n)), (2, .int (nI pl)), (3, .int (nI k)), (5, .int (nI q)), (6, .int (nI i))]) rfl ?_
      refine zx_iinc (pc := 48) C d_UN_codeAt_48 6 rfl (v := (nI (i + 1))) (e48 c14 c23) (by decide) (lv' := [(6, .int (nI (i + 1))), (4, .int (nI (w + zu (f (q + i)) * 2 ^ (8 * i)))), (0, .ref t), (1, .int (nI n)), (2, .int (nI pl)), (3, .int (nI k)), (5, .int (nI q))]) rfl ?_
      refine zx_goto (pc := 51) C 11 d_UN_codeAt_51 (by decide) ?_
      refine zx_lv (lv' := [(0, .ref t), (1, .int (nI n)), (2, .int (nI pl)), (3, .int (nI k)), (4, .int (nI (w + zu (f (q + i)) * 2 ^ (8 * i)))), (5, .int (nI q)), (6, .int (nI (i + 1)))]) [2, 3, 4, 5, 1, 6, 0] rfl ?_
      exact k11 c14 c23

set_option maxHeartbeats 1000000 in
/-- codeAt: the code of k bits at the place -/
theorem k_UN_codeAt (l : Launch) (D : va_G) (cB cI cL : ClassId) (R : Room) (t n pl k : Nat) (f : Nat → Int32) (hn : n ≤ 16384) (hk : k ≤ 12) (hp : pl + k ≤ 8 * n) : zx_K l zB D zcl (zt cB cI cL) y_UN_codeAt b_UN_codeAt 7 (some .int) [] 0 0 R [.ref t, .int (nI n), .int (nI pl), .int (nI k)] [(t, .inl (cB, 16384, .inl f))] (fun o w => o = .returned (some (.int (nI (zcode f n pl k)))) ∧ w = [(t, .inl (cB, 16384, .inl f))]) := by
  refine zx_K.mk (Nat.le_of_ble_eq_true rfl) (fun p e s mm below meth c9 C hr hlk ht hnm => ?_)
  have e3 : ∀ w : Nat, w = zN f n / 256 ^ (pl / 8) % 256 ^ 3 → zx_At p l e R s mm (([.ref t, .int (nI n), .int (nI pl), .int (nI k)] : List Value)).toArray below meth c9 (zx_Q below s D zcl [(t, .inl (cB, 16384, .inl f))] 0 0 R (fun o w => o = .returned (some (.int (nI (zcode f n pl k)))) ∧ w = [(t, .inl (cB, 16384, .inl f))])) D zcl (va_A [(t, .inl (cB, 16384, .inl f))] s.heap.size) 7 [(0, .ref t), (1, .int (nI n)), (2, .int (nI pl)), (3, .int (nI k)), (4, .int (nI w))] [(t, .inl (cB, 16384, .inl f))] 0 0 54 [] := by
    intro w hw
    have hwlt : w < 2 ^ 24 := by rw [hw]; exact Nat.mod_lt _ (by decide)
    have hdl : w / 2 ^ (pl % 8) ≤ w := Nat.div_le_self _ _
    have h16 : k < 16 := by omega
    refine sg_UN_codeAt54 C hr hlk (pk_andN (by omega) 3 (by decide)) (zp_shr (by omega) (by omega)) (zp_shl1 k h16) (pk_sub (a := 2 ^ k) (b := 1) Nat.one_le_two_pow) (zp_mask (by omega) (by omega)) ⟨?_, rfl⟩
    rw [hw, zX_code hk, zcode]
  have loop : ∀ (d i w : Nat), i + d = 3 → w = zN f n / 256 ^ (pl / 8) % 256 ^ i → zx_At p l e R s mm (([.ref t, .int (nI n), .int (nI pl), .int (nI k)] : List Value)).toArray below meth c9 (zx_Q below s D zcl [(t, .inl (cB, 16384, .inl f))] 0 0 R (fun o w => o = .returned (some (.int (nI (zcode f n pl k)))) ∧ w = [(t, .inl (cB, 16384, .inl f))])) D zcl (va_A [(t, .inl (cB, 16384, .inl f))] s.heap.size) 7 [(0, .ref t), (1, .int (nI n)), (2, .int (nI pl)), (3, .int (nI k)), (4, .int (nI w)), (5, .int (nI (pl / 8))), (6, .int (nI i))] [(t, .inl (cB, 16384, .inl f))] 0 0 11 [] := by
    intro d
    induction d with
    | zero =>
      intro i w hi hw
      have hi3 : i = 3 := by omega
      subst hi3
      have key : (3 : Int32) ≤ nI 3 := by decide
      exact sg_UN_codeAt11 C (fun _ => e3 w hw) (fun z => absurd key z) (fun z => absurd key z) (fun z => absurd key z) (fun z => absurd key z) (fun z => absurd key z) (fun z => absurd key z) (fun z => absurd key z) (fun z => absurd key z) (fun z => absurd key z)
    | succ d ih =>
      intro i w hi hw
      have nk : ¬ (3 : Int32) ≤ nI i := fun z => absurd ((zp_ge (k := 3) (K := 3) rfl (by omega) (by decide)).mp z) (by omega)
      have key : nI n ≤ nI (pl / 8 + i) ↔ n ≤ pl / 8 + i := nI_leI (by omega) (by omega)
      have hwi : w < 2 ^ (8 * i) := by
        rw [hw, Nat.pow_mul]
        exact Nat.mod_lt _ (Nat.pow_pos (by decide))
      refine sg_UN_codeAt11 C (fun z => absurd z nk) (fun _ => nI_add _ _) (fun _ z => ?_) (fun _ _ => nI_add _ _) (fun _ z => ⟨rfl, ?_⟩) (fun _ _ => zu_and _) (fun _ _ => pk_mul 8 i) (fun _ _ => zp_or32 hwi (by omega)) (fun _ _ => nI_1 i) (fun _ z => ?_)
      · refine e3 w ?_
        have z2 := key.mp z
        have h1 : zN f n / 256 ^ (pl / 8) < 256 ^ i := by
          refine Nat.div_lt_of_lt_mul ?_
          rw [← Nat.pow_add]
          exact Nat.lt_of_lt_of_le (zN_lt f n) (Nat.pow_le_pow_right (by decide) z2)
        have h2 : 256 ^ i ≤ 256 ^ 3 := Nat.pow_le_pow_right (by decide) (by omega)
        rw [hw, Nat.mod_eq_of_lt h1, Nat.mod_eq_of_lt (Nat.lt_of_lt_of_le h1 h2)]
      · have z2 : ¬ n ≤ pl / 8 + i := fun y => z (key.mpr y)
        omega
      · have z2 : ¬ n ≤ pl / 8 + i := fun y => z (key.mpr y)
        refine ih (i + 1) _ (by omega) ?_
        have h1 := zN_dig f (pl / 8 + i) n
        rw [if_pos (by omega), Nat.pow_add, ← Nat.div_div_eq_div_mul] at h1
        rw [zX_step, h1, hw]
  exact sg_UN_codeAt C (pk_shrN (n := pl) (by omega) 3 3 (by decide)) (loop 3 0 0 rfl (by simp [Nat.mod_one]))
set_option maxRecDepth 100000 in
set_option maxHeartbeats 4000000 in
theorem sg_UN_repeat {p : Program} {l : Launch} {e : Env} {R : Room} {s : State} {m : MethodId} {args : Array Value} {below : List Frame} {meth : Method} {c : Code} {D : va_G} {cB cI cL : ClassId} {Q : State → Prop} {A : Nat → Prop} (C : zx_C p s m args c b_UN_repeat 4 R_UN zB D zcl (zt cB cI cL) A) {a na sa la ia made : Nat} {st9 len9 ls9 ll9 : Int32} {f : Nat → Int32} (k2 : zx_At p l e R s m args below meth c Q D zcl A 4 [(0, .ref a), (1, .int st9), (2, .int len9), (3, .int (0 : Int32))] [(a, .inr (2, [.ref na, .ref sa, .ref la, .ref ia, .int (nI made), .int ls9, .int ll9])), (ia, .inl (cB, 16384, .inl f))] 0 0 2 []) : zx_At p l e R s m args below meth c Q D zcl A 4 [(0, .ref a), (1, .int st9), (2, .int len9)] [(a, .inr (2, [.ref na, .ref sa, .ref la, .ref ia, .int (nI made), .int ls9, .int ll9])), (ia, .inl (cB, 16384, .inl f))] 0 0 0 [] := by
  refine zx_iconst (pc := 0) C d_UN_repeat_0 (v := (0 : Int32)) (by decide) ?_
  refine zx_istore_n (pc := 1) C d_UN_repeat_1 rfl (by decide) (lv' := [(3, .int (0 : Int32)), (0, .ref a), (1, .int st9), (2, .int len9)]) rfl ?_
  refine zx_lv (lv' := [(0, .ref a), (1, .int st9), (2, .int len9), (3, .int (0 : Int32))]) [1, 2, 3, 0] rfl ?_
  exact k2

set_option maxRecDepth 100000 in
set_option maxHeartbeats 4000000 in
theorem sg_UN_repeat2 {p : Program} {l : Launch} {e : Env} {R : Room} {s : State} {m : MethodId} {args : Array Value} {below : List Frame} {meth : Method} {c : Code} {D : va_G} {cB cI cL : ClassId} {w0 : va_W} {kr nr : Nat} {post : Outcome → va_W → Prop} (C : zx_C p s m args c b_UN_repeat 4 R_UN zB D zcl (zt cB cI cL) (va_A w0 s.heap.size)) {a na sa la ia made st len i : Nat} {ls9 ll9 : Int32} {f : Nat → Int32} (hr9 : meth.sig.returnType = none) (hlk9 : meth.locks = false) (r32 : ((nI len) ≤ (nI i)) → post (.returned none) [(a, .inr (2, [.ref na, .ref sa, .ref la, .ref ia, .int (nI made), .int ls9, .int ll9])), (ia, .inl (cB, 16384, .inl f))]) (e16 : (¬ (nI len) ≤ (nI i)) → ((nI made) + (nI i)) = (nI (made + i))) (e23 : (¬ (nI len) ≤ (nI i)) → ((nI st) + (nI i)) = (nI (st + i))) (b24 : (¬ (nI len) ≤ (nI i)) → (nI (st + i)) = nI (st + i) ∧ (st + i) < 16384) (b25 : (¬ (nI len) ≤ (nI i)) → (nI (made + i)) = nI (made + i) ∧ (made + i) < 16384) (e26 : (¬ (nI len) ≤ (nI i)) → (nI i) + (1 : Int32) = (nI (i + 1))) (k2 : (¬ (nI len) ≤ (nI i)) → zx_At p l e R s m args below meth c (zx_Q below s D zcl w0 kr nr R post) D zcl (va_A w0 s.heap.size) 4 [(0, .ref a), (1, .int (nI st)), (2, .int (nI len)), (3, .int (nI (i + 1)))] [(a, .inr (2, [.ref na, .ref sa, .ref la, .ref ia, .int (nI made), .int ls9, .int ll9])), (ia, .inl (cB, 16384, .inl (upd f (made + i) (vp_nar .byte (f (st + i))))))] 0 0 2 []) : zx_At p l e R s m args below meth c (zx_Q below s D zcl w0 kr nr R post) D zcl (va_A w0 s.heap.size) 4 [(0, .ref a), (1, .int (nI st)), (2, .int (nI len)), (3, .int (nI i))] [(a, .inr (2, [.ref na, .ref sa, .ref la, .ref ia, .int (nI made), .int ls9, .int ll9])), (ia, .inl (cB, 16384, .inl f))] 0 0 2 [] := by
  refine zx_iload_n (pc := 2) C d_UN_repeat_2 rfl 3 rfl ?_
  refine zx_iload_n (pc := 3) C d_UN_repeat_3 rfl 2 rfl ?_
  refine zx_icmp_ge (pc := 4) C 32 d_UN_repeat_4 (by decide) (fun c4 => ?_) (fun c4 => ?_)
  · exact zx_vret (pc := 32) C hr9 hlk9 (Nat.zero_le _) (Nat.zero_le _) d_UN_repeat_32 (r32 c4)
  · refine zx_aload_n (pc := 7) C d_UN_repeat_7 rfl 0 rfl ?_
    refine zx_get (pc := 8) (ci := 2) (Cn := R_UN) (T := T_UN) (N := 7) (v := .ref ia) C zu_UN 0 rfl rfl 3 (by decide) zw_66 rfl rfl d_UN_repeat_8 ?_
    refine zx_aload_n (pc := 11) C d_UN_repeat_11 rfl 0 rfl ?_
    refine zx_get (pc := 12) (ci := 2) (Cn := R_UN) (T := T_UN) (N := 7) (v := .int (nI made)) C zu_UN 0 rfl rfl 4 (by decide) zw_67 rfl rfl d_UN_repeat_12 ?_
    refine zx_iload_n (pc := 15) C d_UN_repeat_15 rfl 3 rfl ?_
    refine zx_iadd (pc := 16) C d_UN_repeat_16 ?_
    refine zx_seti (nI (made + i)) (e16 c4) ?_
    refine zx_aload_n (pc := 17) C d_UN_repeat_17 rfl 0 rfl ?_
    refine zx_get (pc := 18) (ci := 2) (Cn := R_UN) (T := T_UN) (N := 7) (v := .ref ia) C zu_UN 0 rfl rfl 3 (by decide) zw_66 rfl rfl d_UN_repeat_18 ?_
    refine zx_iload_n (pc := 21) C d_UN_repeat_21 rfl 1 rfl ?_
    refine zx_iload_n (pc := 22) C d_UN_repeat_22 rfl 3 rfl ?_
    refine zx_iadd (pc := 23) C d_UN_repeat_23 ?_
    refine zx_seti (nI (st + i)) (e23 c4) ?_
    refine zx_bald (pc := 24) C 1 0 rfl rfl (st + i) (b24 c4).1 (b24 c4).2 (by decide) d_UN_repeat_24 ?_
    refine zx_bast (pc := 25) (ws' := [(a, .inr (2, [.ref na, .ref sa, .ref la, .ref ia, .int (nI made), .int ls9, .int ll9])), (ia, .inl (cB, 16384, .inl (upd f (made + i) (vp_nar .byte (f (st + i))))))]) C 1 0 rfl rfl (made + i) (b25 c4).1 (b25 c4).2 (by decide) rfl d_UN_repeat_25 ?_
    refine zx_iinc (pc := 26) C d_UN_repeat_26 3 rfl (v := (nI (i + 1))) (e26 c4) (by decide) (lv' := [(3, .int (nI (i + 1))), (0, .ref a), (1, .int (nI st)), (2, .int (nI len))]) rfl ?_
    refine zx_goto (pc := 29) C 2 d_UN_repeat_29 (by decide) ?_
    refine zx_lv (lv' := [(0, .ref a), (1, .int (nI st)), (2, .int (nI len)), (3, .int (nI (i + 1)))]) [1, 2, 3, 0] rfl ?_
    exact k2 c4

/-- n indices of f from st on, laid from made on, one by one from the front -/
def zcp (f : Nat → Int32) (made st : Nat) : Nat → Nat → Int32
  | 0 => f
  | i + 1 => upd (zcp f made st i) (made + i) (zcp f made st i (st + i))
theorem zcp_by {f : Nat → Int32} {made st : Nat} (h : ∀ j, vp_nar .byte (f j) = f j) : ∀ i j, vp_nar .byte (zcp f made st i j) = zcp f made st i j
  | 0, j => h j
  | i + 1, j => by
    show vp_nar .byte (upd _ _ _ j) = upd _ _ _ j
    by_cases q : j = made + i
    · rw [q, pk_us]; exact zcp_by h i _
    · rw [pk_un q]; exact zcp_by h i _
theorem k_UN_repeat (l : Launch) (D : va_G) (cB cI cL : ClassId) (R : Room) (a na sa la ia made st len : Nat) (ls9 ll9 : Int32) (f : Nat → Int32) (hb : ∀ j, vp_nar .byte (f j) = f j) (h1 : made + len ≤ 16384) (h2 : st ≤ made) : zx_K l zB D zcl (zt cB cI cL) y_UN_repeat b_UN_repeat 4 (none) [] 0 0 R [.ref a, .int (nI st), .int (nI len)] [(a, .inr (2, [.ref na, .ref sa, .ref la, .ref ia, .int (nI made), .int ls9, .int ll9])), (ia, .inl (cB, 16384, .inl f))] (fun o w => o = .returned none ∧ w = [(a, .inr (2, [.ref na, .ref sa, .ref la, .ref ia, .int (nI made), .int ls9, .int ll9])), (ia, .inl (cB, 16384, .inl (zcp f made st len)))]) := by
  refine zx_K.mk (Nat.le_of_ble_eq_true rfl) (fun p e s mm below meth c9 C hr hlk ht hnm => ?_)
  have loop : ∀ (d i : Nat), i + d = len → zx_At p l e R s mm (([.ref a, .int (nI st), .int (nI len)] : List Value)).toArray below meth c9 (zx_Q below s D zcl [(a, .inr (2, [.ref na, .ref sa, .ref la, .ref ia, .int (nI made), .int ls9, .int ll9])), (ia, .inl (cB, 16384, .inl f))] 0 0 R (fun o w => o = .returned none ∧ w = [(a, .inr (2, [.ref na, .ref sa, .ref la, .ref ia, .int (nI made), .int ls9, .int ll9])), (ia, .inl (cB, 16384, .inl (zcp f made st len)))])) D zcl (va_A [(a, .inr (2, [.ref na, .ref sa, .ref la, .ref ia, .int (nI made), .int ls9, .int ll9])), (ia, .inl (cB, 16384, .inl f))] s.heap.size) 4 [(0, .ref a), (1, .int (nI st)), (2, .int (nI len)), (3, .int (nI i))] [(a, .inr (2, [.ref na, .ref sa, .ref la, .ref ia, .int (nI made), .int ls9, .int ll9])), (ia, .inl (cB, 16384, .inl (zcp f made st i)))] 0 0 2 [] := by
    intro d
    induction d with
    | zero =>
      intro i hi
      have key : nI len ≤ nI i := by rw [show i = len by omega]; exact Int32.le_refl _
      exact sg_UN_repeat2 C hr hlk (fun _ => ⟨rfl, by rw [show i = len by omega]⟩) (fun z => absurd key z) (fun z => absurd key z) (fun z => absurd key z) (fun z => absurd key z) (fun z => absurd key z) (fun z => absurd key z)
    | succ d ih =>
      intro i hi
      have nk : ¬ nI len ≤ nI i := fun z => absurd ((nI_leI (by omega) (by omega)).mp z) (by omega)
      refine sg_UN_repeat2 C hr hlk (fun z => absurd z nk) (fun _ => nI_add _ _) (fun _ => nI_add _ _) (fun _ => ⟨rfl, by omega⟩) (fun _ => ⟨rfl, by omega⟩) (fun _ => nI_1 i) (fun _ => ?_)
      rw [zcp_by hb i]
      exact ih (i + 1) (by omega)
  exact sg_UN_repeat C (loop len 0 (by omega))
