/-- the byte of a number -/
def zby (k : Nat) : Int32 := (nI k).toInt8.toInt32
theorem zby_nar (k : Nat) : vp_nar .byte (zby k) = zby k := pk_vb _
theorem zby_add (k c : Nat) : zby (k + 256 * c) = zby k := by
  unfold zby nI
  congr 1
  apply Int8.toBitVec_inj.mp
  apply BitVec.eq_of_toNat_eq
  simp
/-- the sink holds the number V of P bits: n whole bytes in f, v of wb bits waiting -/
def zS (f : Nat → Int32) (n v wb V P : Nat) : Prop := P = 8 * n + wb ∧ v = V / 256 ^ n ∧ V < 2 ^ P ∧ (∀ j, j < n → f j = zby (V / 256 ^ j)) ∧ ∀ j, vp_nar .byte (f j) = f j
theorem zS_v {f : Nat → Int32} {n v wb V P : Nat} (h : zS f n v wb V P) : v < 2 ^ wb := by
  obtain ⟨h1, h2, h3, -⟩ := h
  rw [h2]
  refine Nat.div_lt_of_lt_mul ?_
  rw [show (256 : Nat) = 2 ^ 8 from rfl, ← Nat.pow_mul, ← Nat.pow_add, ← h1]
  exact h3
theorem zS_step {f : Nat → Int32} {n v wb V P : Nat} (h : zS f n v wb V P) (hw : 8 ≤ wb) : zS (upd f n (zby v)) (n + 1) (v / 256) (wb - 8) V P := by
  obtain ⟨h1, h2, h3, h4, h5⟩ := h
  refine ⟨by omega, ?_, h3, fun j hj => ?_, fun j => ?_⟩
  · rw [h2, Nat.div_div_eq_div_mul, Nat.pow_succ]
  · by_cases q : j = n
    · rw [q, pk_us, h2]
    · rw [pk_un q]; exact h4 j (by omega)
  · by_cases q : j = n
    · rw [q, pk_us]; exact zby_nar v
    · rw [pk_un q]; exact h5 j
theorem zS_put {f : Nat → Int32} {n v wb V P : Nat} (h : zS f n v wb V P) {c k : Nat} (hc : c < 2 ^ k) : zS f n (v + c * 2 ^ wb) (wb + k) (V + c * 2 ^ P) (P + k) := by
  have hv := zS_v h
  obtain ⟨h1, h2, h3, h4, h5⟩ := h
  have e1 : (256 : Nat) ^ n * 2 ^ wb = 2 ^ P := by rw [show (256 : Nat) = 2 ^ 8 from rfl, ← Nat.pow_mul, ← Nat.pow_add, ← h1]
  refine ⟨by omega, ?_, ?_, fun j hj => ?_, h5⟩
  · have e3 : c * (256 ^ n * 2 ^ wb) = 256 ^ n * (c * 2 ^ wb) := Nat.mul_left_comm ..
    rw [h2, ← e1, e3, Nat.add_mul_div_left _ _ (Nat.pow_pos (by decide : 0 < 256))]
  · calc V + c * 2 ^ P < 2 ^ P + c * 2 ^ P := by omega
      _ = (c + 1) * 2 ^ P := by rw [Nat.add_mul, Nat.one_mul, Nat.add_comm]
      _ ≤ 2 ^ k * 2 ^ P := Nat.mul_le_mul_right _ hc
      _ = 2 ^ (P + k) := by rw [← Nat.pow_add, Nat.add_comm]
  · rw [h4 j hj]
    have e2 : 2 ^ P = 256 ^ j * (256 * 2 ^ (P - 8 * (j + 1))) := by
      rw [show (256 : Nat) = 2 ^ 8 from rfl, ← Nat.pow_mul, ← Nat.pow_add, ← Nat.pow_add]
      congr 1
      omega
    have e3 : c * (256 ^ j * (256 * 2 ^ (P - 8 * (j + 1)))) = 256 ^ j * (256 * (c * 2 ^ (P - 8 * (j + 1)))) := by rw [Nat.mul_left_comm, Nat.mul_left_comm c]
    rw [e2, e3, Nat.add_mul_div_left _ _ (Nat.pow_pos (by decide : 0 < 256))]
    exact (zby_add _ _).symm
theorem zS_0 {f : Nat → Int32} (h : ∀ j, vp_nar .byte (f j) = f j) : zS f 0 0 0 0 0 := ⟨rfl, rfl, by decide, fun j hj => absurd hj (Nat.not_lt_zero _), h⟩
theorem zp_or {v c wb : Nat} (hv : v < 2 ^ wb) (hwb : wb < 16) : nI v ||| (nI c <<< (nI wb &&& 31)) = nI (v + c * 2 ^ wb) := by
  have h1 : nI c <<< (nI wb &&& 31) = nI (c * 2 ^ wb) := by
    have h2 : ∀ k, k < 16 → ((nI k &&& 31).toBitVec.smod 32).toNat = k := by decide +kernel
    unfold nI
    apply Int32.toBitVec_inj.mp
    apply BitVec.eq_of_toNat_eq
    have h3 := pk_shl (nI c) (nI wb &&& 31) wb (h2 wb hwb)
    unfold nI at h3
    rw [h3]
    simp [Nat.mul_mod]
  rw [h1]
  unfold nI
  apply Int32.toBitVec_inj.mp
  apply BitVec.eq_of_toNat_eq
  simp only [Int32.toBitVec_or, BitVec.toNat_or, Int32.toBitVec_ofNat', BitVec.toNat_ofNat]
  rw [← Nat.or_mod_two_pow, Nat.mul_comm c, Nat.or_comm, ← Nat.two_pow_add_eq_or_of_lt hv, Nat.add_comm]
set_option maxRecDepth 100000 in
set_option maxHeartbeats 4000000 in
theorem sg_BS_init {p : Program} {l : Launch} {e : Env} {s : State} {mi : MethodId} {args : Array Value} {below : List Frame} {meth : Method} {co : Code} {D : va_G} {cB cI cL : ClassId} {w0 : va_W} {kr nr : Nat} {post : Outcome → va_W → Prop} (C : zx_C p s mi args co b_BS_init 1 R_BS zB D zcl (zt cB cI cL) (va_A w0 s.heap.size)) {a : Nat} {n9 w9 v9 : Int32} (hr9 : meth.sig.returnType = none) (hlk9 : meth.locks = false) (hkr9 : 1 ≤ kr) (hnr9 : 0 ≤ nr) (hnm9 : meth.name = "<init>") (r26 : ∀ q6 : Nat, post (.returned none) [(a, .inr (1, [.ref q6, .int (0 : Int32), .int (0 : Int32), .int (0 : Int32)])), (q6, .inl (cB, 0, .inl (fun _ => 0)))]) : zx_At p l e (zr 1 1 0) s mi args below meth co (zx_Q below s D zcl w0 kr nr (zr 1 1 0) post) D zcl (va_A w0 s.heap.size) 1 [(0, .ref a)] [(a, .inr (1, [.null, .int n9, .int w9, .int v9]))] 0 0 0 [] := by
  refine zx_aload_n (pc := 0) C d_BS_init_0 rfl 0 rfl ?_
  refine zx_objInit (pc := 1) C zw_99 zw_31 zw_32 d_BS_init_1 (Nat.le_of_ble_eq_true rfl) (Nat.le_of_ble_eq_true rfl) ?_
  refine zx_aload_n (pc := 4) C d_BS_init_4 rfl 0 rfl ?_
  refine zx_iconst (pc := 5) C d_BS_init_5 (v := (0 : Int32)) (by decide) ?_
  refine zx_newa (pc := 6) (ty := .byte) (N := 0) (a0 := (0, .inl (fun _ => 0))) C rfl (by simp) zw_62 0 rfl (fun _ => rfl) (by decide) (by decide) (by decide) (Nat.le_of_ble_eq_true rfl) (Nat.le_of_ble_eq_true rfl) d_BS_init_6 (fun q6 => ?_)
  show zx_At p l e (zr 1 1 0) s mi args below meth co (zx_Q below s D zcl w0 kr nr (zr 1 1 0) post) D zcl (va_A w0 s.heap.size) 1 [(0, .ref a)] [(a, .inr (1, [.null, .int n9, .int w9, .int v9])), (q6, .inl (cB, 0, .inl (fun _ => 0)))] 1 0 8 [.ref q6, .ref a]
  refine zx_put (pc := 8) (ci := 1) (Cn := R_BS) (T := T_BS) (N := 4) (v := .ref q6) (ty := .array .byte) (ws' := [(a, .inr (1, [.ref q6, .int n9, .int w9, .int v9])), (q6, .inl (cB, 0, .inl (fun _ => 0)))]) C zu_BS ty_BS tyk_BS nm_BS 0 rfl rfl 0 (by decide) zw_100 rfl rfl (by decide +kernel) rfl rfl (Nat.le_of_ble_eq_true rfl) rfl d_BS_init_8 ?_
  refine zx_aload_n (pc := 11) C d_BS_init_11 rfl 0 rfl ?_
  refine zx_iconst (pc := 12) C d_BS_init_12 (v := (0 : Int32)) (by decide) ?_
  refine zx_put (pc := 13) (ci := 1) (Cn := R_BS) (T := T_BS) (N := 4) (v := .int (0 : Int32)) (ty := .int) (ws' := [(a, .inr (1, [.ref q6, .int (0 : Int32), .int w9, .int v9])), (q6, .inl (cB, 0, .inl (fun _ => 0)))]) C zu_BS ty_BS tyk_BS nm_BS 0 rfl rfl 1 (by decide) zw_101 rfl rfl (by decide +kernel) rfl rfl (Nat.le_of_ble_eq_true rfl) rfl d_BS_init_13 ?_
  refine zx_aload_n (pc := 16) C d_BS_init_16 rfl 0 rfl ?_
  refine zx_iconst (pc := 17) C d_BS_init_17 (v := (0 : Int32)) (by decide) ?_
  refine zx_put (pc := 18) (ci := 1) (Cn := R_BS) (T := T_BS) (N := 4) (v := .int (0 : Int32)) (ty := .int) (ws' := [(a, .inr (1, [.ref q6, .int (0 : Int32), .int (0 : Int32), .int v9])), (q6, .inl (cB, 0, .inl (fun _ => 0)))]) C zu_BS ty_BS tyk_BS nm_BS 0 rfl rfl 2 (by decide) zw_102 rfl rfl (by decide +kernel) rfl rfl (Nat.le_of_ble_eq_true rfl) rfl d_BS_init_18 ?_
  refine zx_aload_n (pc := 21) C d_BS_init_21 rfl 0 rfl ?_
  refine zx_iconst (pc := 22) C d_BS_init_22 (v := (0 : Int32)) (by decide) ?_
  refine zx_put (pc := 23) (ci := 1) (Cn := R_BS) (T := T_BS) (N := 4) (v := .int (0 : Int32)) (ty := .int) (ws' := [(a, .inr (1, [.ref q6, .int (0 : Int32), .int (0 : Int32), .int (0 : Int32)])), (q6, .inl (cB, 0, .inl (fun _ => 0)))]) C zu_BS ty_BS tyk_BS nm_BS 0 rfl rfl 3 (by decide) zw_103 rfl rfl (by decide +kernel) rfl rfl (Nat.le_of_ble_eq_true rfl) rfl d_BS_init_23 ?_
  exact zx_vret (pc := 26) C hr9 hlk9 (Nat.le_trans (Nat.le_of_ble_eq_true rfl) hkr9) (Nat.zero_le _) d_BS_init_26 (r26 q6)

theorem k_BS_init (l : Launch) (D : va_G) (cB cI cL : ClassId) (a : Nat) (n9 w9 v9 : Int32) : zx_K l zB D zcl (zt cB cI cL) y_BS_init b_BS_init 1 (none) [] 1 0 (zr 1 1 0) [.ref a] [(a, .inr (1, [.null, .int n9, .int w9, .int v9]))] (fun o w => ∃ q : Nat, o = .returned none ∧ w = [(a, .inr (1, [.ref q, .int 0, .int 0, .int 0])), (q, .inl (cB, 0, .inl (fun _ => 0)))]) := by
  refine zx_K.mk (Nat.le_of_ble_eq_true rfl) (fun p e s mm below meth c C hr hlk ht hn => ?_)
  exact sg_BS_init C hr hlk (Nat.le_refl _) (Nat.le_refl _) hn (fun q => ⟨q, rfl, rfl⟩)
set_option maxRecDepth 100000 in
set_option maxHeartbeats 4000000 in
theorem sg_BS_startOn {p : Program} {l : Launch} {e : Env} {R : Room} {s : State} {mi : MethodId} {args : Array Value} {below : List Frame} {meth : Method} {co : Code} {D : va_G} {cB cI cL : ClassId} {w0 : va_W} {kr nr : Nat} {post : Outcome → va_W → Prop} (C : zx_C p s mi args co b_BS_startOn 2 R_BS zB D zcl (zt cB cI cL) (va_A w0 s.heap.size)) {a ab t9 : Nat} {n9 w9 v9 : Int32} (hr9 : meth.sig.returnType = none) (hlk9 : meth.locks = false) (r20 : post (.returned none) [(a, .inr (1, [.ref t9, .int (0 : Int32), .int (0 : Int32), .int (0 : Int32)]))]) : zx_At p l e R s mi args below meth co (zx_Q below s D zcl w0 kr nr R post) D zcl (va_A w0 s.heap.size) 2 [(0, .ref a), (1, .ref t9)] [(a, .inr (1, [.ref ab, .int n9, .int w9, .int v9]))] 0 0 0 [] := by
  refine zx_aload_n (pc := 0) C d_BS_startOn_0 rfl 0 rfl ?_
  refine zx_aload_n (pc := 1) C d_BS_startOn_1 rfl 1 rfl ?_
  refine zx_put (pc := 2) (ci := 1) (Cn := R_BS) (T := T_BS) (N := 4) (v := .ref t9) (ty := .array .byte) (ws' := [(a, .inr (1, [.ref t9, .int n9, .int w9, .int v9]))]) C zu_BS ty_BS tyk_BS nm_BS 0 rfl rfl 0 (by decide) zw_100 rfl rfl (by decide +kernel) rfl rfl (Nat.le_of_ble_eq_true rfl) rfl d_BS_startOn_2 ?_
  refine zx_aload_n (pc := 5) C d_BS_startOn_5 rfl 0 rfl ?_
  refine zx_iconst (pc := 6) C d_BS_startOn_6 (v := (0 : Int32)) (by decide) ?_
  refine zx_put (pc := 7) (ci := 1) (Cn := R_BS) (T := T_BS) (N := 4) (v := .int (0 : Int32)) (ty := .int) (ws' := [(a, .inr (1, [.ref t9, .int (0 : Int32), .int w9, .int v9]))]) C zu_BS ty_BS tyk_BS nm_BS 0 rfl rfl 1 (by decide) zw_101 rfl rfl (by decide +kernel) rfl rfl (Nat.le_of_ble_eq_true rfl) rfl d_BS_startOn_7 ?_
  refine zx_aload_n (pc := 10) C d_BS_startOn_10 rfl 0 rfl ?_
  refine zx_iconst (pc := 11) C d_BS_startOn_11 (v := (0 : Int32)) (by decide) ?_
  refine zx_put (pc := 12) (ci := 1) (Cn := R_BS) (T := T_BS) (N := 4) (v := .int (0 : Int32)) (ty := .int) (ws' := [(a, .inr (1, [.ref t9, .int (0 : Int32), .int (0 : Int32), .int v9]))]) C zu_BS ty_BS tyk_BS nm_BS 0 rfl rfl 2 (by decide) zw_102 rfl rfl (by decide +kernel) rfl rfl (Nat.le_of_ble_eq_true rfl) rfl d_BS_startOn_12 ?_
  refine zx_aload_n (pc := 15) C d_BS_startOn_15 rfl 0 rfl ?_
  refine zx_iconst (pc := 16) C d_BS_startOn_16 (v := (0 : Int32)) (by decide) ?_
  refine zx_put (pc := 17) (ci := 1) (Cn := R_BS) (T := T_BS) (N := 4) (v := .int (0 : Int32)) (ty := .int) (ws' := [(a, .inr (1, [.ref t9, .int (0 : Int32), .int (0 : Int32), .int (0 : Int32)]))]) C zu_BS ty_BS tyk_BS nm_BS 0 rfl rfl 3 (by decide) zw_103 rfl rfl (by decide +kernel) rfl rfl (Nat.le_of_ble_eq_true rfl) rfl d_BS_startOn_17 ?_
  exact zx_vret (pc := 20) C hr9 hlk9 (Nat.zero_le _) (Nat.zero_le _) d_BS_startOn_20 (r20)

theorem k_BS_startOn (l : Launch) (D : va_G) (cB cI cL : ClassId) (R : Room) (a ab t9 : Nat) (n9 w9 v9 : Int32) : zx_K l zB D zcl (zt cB cI cL) y_BS_startOn b_BS_startOn 2 (none) [] 0 0 R [.ref a, .ref t9] [(a, .inr (1, [.ref ab, .int n9, .int w9, .int v9]))] (fun o w => o = .returned none ∧ w = [(a, .inr (1, [.ref t9, .int (nI 0), .int (nI 0), .int (nI 0)]))]) := by
  refine zx_K.mk (Nat.le_of_ble_eq_true rfl) (fun p e s mm below meth c C hr hlk ht hn => ?_)
  exact sg_BS_startOn C hr hlk ⟨rfl, rfl⟩
set_option maxRecDepth 100000 in
set_option maxHeartbeats 4000000 in
theorem sg_BS_putByte {p : Program} {l : Launch} {e : Env} {s : State} {mi : MethodId} {args : Array Value} {below : List Frame} {meth : Method} {co : Code} {D : va_G} {cB cI cL : ClassId} {w0 : va_W} {kr nr : Nat} {post : Outcome → va_W → Prop} (C : zx_C p s mi args co b_BS_putByte 1 R_BS zB D zcl (zt cB cI cL) (va_A w0 s.heap.size)) {a ab : Nat} {v9 : Int32} {f : Nat → Int32} {n8 v8 : Nat} (hr9 : meth.sig.returnType = none) (hlk9 : meth.locks = false) (hl9 : l.stackTraces = false) (ht9 : co.exceptionTable.toList.map (fun h => (h.startPc, h.endPc, h.handlerPc, h.catchType)) = []) (e32 : ((nI n8) < (16384 : Int32)) → ((nI v8).toInt8.toInt32) = (zby v8)) (b33 : ((nI n8) < (16384 : Int32)) → (nI n8) = nI n8 ∧ n8 < 16384) (e40 : ((nI n8) < (16384 : Int32)) → ((nI n8) + (1 : Int32)) = (nI (n8 + 1))) (e51 : ((nI n8) < (16384 : Int32)) → (((nI v8).toUInt32 >>> ((8 : Int32).toUInt32 &&& Int32.toUInt32 31)).toInt32) = (nI (v8 / 256))) (r55 : ((nI n8) < (16384 : Int32)) → post (.returned none) [(a, .inr (1, [.ref ab, .int (nI (n8 + 1)), .int (nI (v8 / 256)), .int v9])), (ab, .inl (cB, 16384, .inl (upd f n8 (vp_nar .byte (zby v8)))))]) (t10 : (¬ (nI n8) < (16384 : Int32)) → ∀ x9 : Nat, post (.threw x9) [(a, .inr (1, [.ref ab, .int (nI n8), .int (nI v8), .int v9])), (ab, .inl (cB, 16384, .inl f)), (x9, .inr (8, []))]) : zx_At p l e (zr 8 1 6) s mi args below meth co (zx_Q below s D zcl w0 kr nr (zr 8 1 6) post) D zcl (va_A w0 s.heap.size) 1 [(0, .ref a)] [(a, .inr (1, [.ref ab, .int (nI n8), .int (nI v8), .int v9])), (ab, .inl (cB, 16384, .inl f))] 0 0 0 [] := by
  refine zx_aload_n (pc := 0) C d_BS_putByte_0 rfl 0 rfl ?_
  refine zx_get (pc := 1) (ci := 1) (Cn := R_BS) (T := T_BS) (N := 4) (v := .int (nI n8)) C zu_BS 0 rfl rfl 1 (by decide) zw_101 rfl rfl d_BS_putByte_1 ?_
  refine zx_sipush (pc := 4) C d_BS_putByte_4 (v := (16384 : Int32)) (by decide) ?_
  refine zx_icmp_lt (pc := 7) C 20 d_BS_putByte_7 (by decide) (fun c7 => ?_) (fun c7 => ?_)
  · refine zx_aload_n (pc := 20) C d_BS_putByte_20 rfl 0 rfl ?_
    refine zx_get (pc := 21) (ci := 1) (Cn := R_BS) (T := T_BS) (N := 4) (v := .ref ab) C zu_BS 0 rfl rfl 0 (by decide) zw_100 rfl rfl d_BS_putByte_21 ?_
    refine zx_aload_n (pc := 24) C d_BS_putByte_24 rfl 0 rfl ?_
    refine zx_get (pc := 25) (ci := 1) (Cn := R_BS) (T := T_BS) (N := 4) (v := .int (nI n8)) C zu_BS 0 rfl rfl 1 (by decide) zw_101 rfl rfl d_BS_putByte_25 ?_
    refine zx_aload_n (pc := 28) C d_BS_putByte_28 rfl 0 rfl ?_
    refine zx_get (pc := 29) (ci := 1) (Cn := R_BS) (T := T_BS) (N := 4) (v := .int (nI v8)) C zu_BS 0 rfl rfl 2 (by decide) zw_102 rfl rfl d_BS_putByte_29 ?_
    refine zx_i2b (pc := 32) C d_BS_putByte_32 rfl ?_
    refine zx_seti (zby v8) (e32 c7) ?_
    refine zx_bast (pc := 33) (ws' := [(a, .inr (1, [.ref ab, .int (nI n8), .int (nI v8), .int v9])), (ab, .inl (cB, 16384, .inl (upd f n8 (vp_nar .byte (zby v8)))))]) C 1 0 rfl rfl n8 (b33 c7).1 (b33 c7).2 (by decide) rfl d_BS_putByte_33 ?_
    refine zx_aload_n (pc := 34) C d_BS_putByte_34 rfl 0 rfl ?_
    refine zx_dup (pc := 35) C d_BS_putByte_35 rfl ?_
    refine zx_get (pc := 36) (ci := 1) (Cn := R_BS) (T := T_BS) (N := 4) (v := .int (nI n8)) C zu_BS 0 rfl rfl 1 (by decide) zw_101 rfl rfl d_BS_putByte_36 ?_
    refine zx_iconst (pc := 39) C d_BS_putByte_39 (v := (1 : Int32)) (by decide) ?_
    refine zx_iadd (pc := 40) C d_BS_putByte_40 ?_
    refine zx_seti (nI (n8 + 1)) (e40 c7) ?_
    refine zx_put (pc := 41) (ci := 1) (Cn := R_BS) (T := T_BS) (N := 4) (v := .int (nI (n8 + 1))) (ty := .int) (ws' := [(a, .inr (1, [.ref ab, .int (nI (n8 + 1)), .int (nI v8), .int v9])), (ab, .inl (cB, 16384, .inl (upd f n8 (vp_nar .byte (zby v8)))))]) C zu_BS ty_BS tyk_BS nm_BS 0 rfl rfl 1 (by decide) zw_101 rfl rfl (by decide +kernel) rfl rfl (Nat.le_of_ble_eq_true rfl) rfl d_BS_putByte_41 ?_
    refine zx_aload_n (pc := 44) C d_BS_putByte_44 rfl 0 rfl ?_
    refine zx_dup (pc := 45) C d_BS_putByte_45 rfl ?_
    refine zx_get (pc := 46) (ci := 1) (Cn := R_BS) (T := T_BS) (N := 4) (v := .int (nI v8)) C zu_BS 0 rfl rfl 2 (by decide) zw_102 rfl rfl d_BS_putByte_46 ?_
    refine zx_bipush (pc := 49) C d_BS_putByte_49 (v := (8 : Int32)) (by decide) ?_
    refine zx_iushr (pc := 51) C d_BS_putByte_51 rfl ?_
    refine zx_seti (nI (v8 / 256)) (e51 c7) ?_
    refine zx_put (pc := 52) (ci := 1) (Cn := R_BS) (T := T_BS) (N := 4) (v := .int (nI (v8 / 256))) (ty := .int) (ws' := [(a, .inr (1, [.ref ab, .int (nI (n8 + 1)), .int (nI (v8 / 256)), .int v9])), (ab, .inl (cB, 16384, .inl (upd f n8 (vp_nar .byte (zby v8)))))]) C zu_BS ty_BS tyk_BS nm_BS 0 rfl rfl 2 (by decide) zw_102 rfl rfl (by decide +kernel) rfl rfl (Nat.le_of_ble_eq_true rfl) rfl d_BS_putByte_52 ?_
    exact zx_vret (pc := 55) C hr9 hlk9 (Nat.zero_le _) (Nat.zero_le _) d_BS_putByte_55 (r55 c7)
  · exact zx_throwS (pc := 10) (names := zex) (ci := 8) C hl9 (by decide +kernel) zex_fit zw_383 zw_10 zw_384 zh_BS_32 rfl hlk9 (zx_noTab ht9 _) d_BS_putByte_10 d_BS_putByte_13 d_BS_putByte_14 d_BS_putByte_16 d_BS_putByte_19 (Nat.le_of_ble_eq_true rfl) (Nat.le_of_ble_eq_true rfl) (Nat.le_of_ble_eq_true rfl) (Nat.le_of_ble_eq_true rfl) (t10 c7)

theorem k_BS_putByte (l : Launch) (D : va_G) (cB cI cL : ClassId) (hl : l.stackTraces = false) (a ab n v : Nat) (v9 : Int32) (f : Nat → Int32) (hn : n ≤ 16384) (hv : v < 2 ^ 31) : zx_K l zB D zcl (zt cB cI cL) y_BS_putByte b_BS_putByte 1 (none) [] 0 0 (zr 8 1 6) [.ref a] [(a, .inr (1, [.ref ab, .int (nI n), .int (nI v), .int v9])), (ab, .inl (cB, 16384, .inl f))] (fun o w => (n < 16384 ∧ o = .returned none ∧ w = [(a, .inr (1, [.ref ab, .int (nI (n + 1)), .int (nI (v / 256)), .int v9])), (ab, .inl (cB, 16384, .inl (upd f n (zby v))))]) ∨ (16384 ≤ n ∧ ∃ x : Nat, o = .threw x ∧ w = [(a, .inr (1, [.ref ab, .int (nI n), .int (nI v), .int v9])), (ab, .inl (cB, 16384, .inl f)), (x, .inr (8, []))])) := by
  refine zx_K.mk (Nat.le_of_ble_eq_true rfl) (fun p e s mm below meth c C hr hlk ht hnm => ?_)
  have key : nI n < (16384 : Int32) ↔ n < 16384 := zp_lt rfl (by omega) (by decide)
  refine sg_BS_putByte C hr hlk hl ht (fun _ => rfl) (fun h => ⟨rfl, key.mp h⟩) (fun _ => nI_1 n) (fun _ => ?_) (fun h => Or.inl ⟨key.mp h, rfl, by rw [zby_nar]⟩) (fun h x => Or.inr ⟨?_, x, rfl, rfl⟩)
  · exact pk_ushrN (n := v) (by omega) 8 8 (by decide)
  · have h2 : ¬ n < 16384 := fun q => h (key.mpr q)
    omega
set_option maxRecDepth 100000 in
set_option maxHeartbeats 4000000 in
theorem sg_BS_finish {p : Program} {l : Launch} {e : Env} {s : State} {mi : MethodId} {args : Array Value} {below : List Frame} {meth : Method} {co : Code} {D : va_G} {cB cI cL : ClassId} {w0 : va_W} {kr nr : Nat} {post : Outcome → va_W → Prop} (C : zx_C p s mi args co b_BS_finish 1 R_BS zB D zcl (zt cB cI cL) (va_A w0 s.heap.size)) {a ab : Nat} {f : Nat → Int32} {n8 v8 b8 : Nat} (hn8 : n8 ≤ 16384) (hv8 : v8 < 2 ^ 31) (hr9 : meth.sig.returnType = some .int) (hlk9 : meth.locks = false) (hl9 : l.stackTraces = false) (ht9 : co.exceptionTable.toList.map (fun h => (h.startPc, h.endPc, h.handlerPc, h.catchType)) = []) (r20 : ((nI b8) ≤ 0) → post (.returned (some (.int (nI n8)))) [(a, .inr (1, [.ref ab, .int (nI n8), .int (nI v8), .int (nI b8)])), (ab, .inl (cB, 16384, .inl f))]) (r20_2 : (¬ (nI b8) ≤ 0) → (n8 < 16384) → post (.returned (some (.int (nI (n8 + 1))))) [(a, .inr (1, [.ref ab, .int (nI (n8 + 1)), .int (nI (v8 / 256)), .int (0 : Int32)])), (ab, .inl (cB, 16384, .inl (upd f n8 (zby v8))))]) (t8 : (¬ (nI b8) ≤ 0) → (16384 ≤ n8) → ∀ x9 : Nat, post (.threw x9) [(a, .inr (1, [.ref ab, .int (nI n8), .int (nI v8), .int (nI b8)])), (ab, .inl (cB, 16384, .inl f)), (x9, .inr (8, []))]) : zx_At p l e (zr 9 1 6) s mi args below meth co (zx_Q below s D zcl w0 kr nr (zr 9 1 6) post) D zcl (va_A w0 s.heap.size) 1 [(0, .ref a)] [(a, .inr (1, [.ref ab, .int (nI n8), .int (nI v8), .int (nI b8)])), (ab, .inl (cB, 16384, .inl f))] 0 0 0 [] := by
  refine zx_aload_n (pc := 0) C d_BS_finish_0 rfl 0 rfl ?_
  refine zx_get (pc := 1) (ci := 1) (Cn := R_BS) (T := T_BS) (N := 4) (v := .int (nI b8)) C zu_BS 0 rfl rfl 3 (by decide) zw_103 rfl rfl d_BS_finish_1 ?_
  refine zx_if_le (pc := 4) C 16 d_BS_finish_4 (by decide) (fun c4 => ?_) (fun c4 => ?_)
  · refine zx_aload_n (pc := 16) C d_BS_finish_16 rfl 0 rfl ?_
    refine zx_get (pc := 17) (ci := 1) (Cn := R_BS) (T := T_BS) (N := 4) (v := .int (nI n8)) C zu_BS 0 rfl rfl 1 (by decide) zw_101 rfl rfl d_BS_finish_17 ?_
    exact zx_iret (pc := 20) C hr9 hlk9 (Nat.zero_le _) (Nat.zero_le _) d_BS_finish_20 (r20 c4)
  · refine zx_aload_n (pc := 7) C d_BS_finish_7 rfl 0 rfl ?_
    refine zx_callV (pc := 8) (ix := 25) (As := []) (b := a) (q0 := 0) (wr := []) (st := []) C (zx_cw.of (C.w zw_382)) (by decide +kernel) ⟨by decide +kernel, by decide +kernel⟩ zw_381 zs_BS_putByte zw_379 rfl rfl rfl rfl rfl (k_BS_putByte l D cB cI cL hl9 a ab n8 v8 (nI b8) f hn8 hv8) rfl [0, 1] [] rfl rfl (by decide) (by decide) (by decide) (Nat.le_of_ble_eq_true rfl) (Nat.le_of_ble_eq_true rfl) (Nat.le_of_ble_eq_true rfl) (Nat.le_of_ble_eq_true rfl) d_BS_finish_8 (fun o w1 hp => ?_)
    rcases hp with ⟨hc8, rfl, rfl⟩ | ⟨hc8, x9, rfl, rfl⟩
    · refine zx_rv (k2 := 0) (n2 := 0) rfl rfl ?_
      refine zx_ws (ws' := [(a, .inr (1, [.ref ab, .int (nI (n8 + 1)), .int (nI (v8 / 256)), .int (nI b8)])), (ab, .inl (cB, 16384, .inl (upd f n8 (zby v8))))]) [0, 1] (by decide) rfl ?_
      refine zx_aload_n (pc := 11) C d_BS_finish_11 rfl 0 rfl ?_
      refine zx_iconst (pc := 12) C d_BS_finish_12 (v := (0 : Int32)) (by decide) ?_
      refine zx_put (pc := 13) (ci := 1) (Cn := R_BS) (T := T_BS) (N := 4) (v := .int (0 : Int32)) (ty := .int) (ws' := [(a, .inr (1, [.ref ab, .int (nI (n8 + 1)), .int (nI (v8 / 256)), .int (0 : Int32)])), (ab, .inl (cB, 16384, .inl (upd f n8 (zby v8))))]) C zu_BS ty_BS tyk_BS nm_BS 0 rfl rfl 3 (by decide) zw_103 rfl rfl (by decide +kernel) rfl rfl (Nat.le_of_ble_eq_true rfl) rfl d_BS_finish_13 ?_
      refine zx_aload_n (pc := 16) C d_BS_finish_16 rfl 0 rfl ?_
      refine zx_get (pc := 17) (ci := 1) (Cn := R_BS) (T := T_BS) (N := 4) (v := .int (nI (n8 + 1))) C zu_BS 0 rfl rfl 1 (by decide) zw_101 rfl rfl d_BS_finish_17 ?_
      exact zx_iret (pc := 20) C hr9 hlk9 (Nat.zero_le _) (Nat.zero_le _) d_BS_finish_20 (r20_2 c4 hc8)
    · exact zx_rt (k2 := 1) (n2 := 6) rfl rfl (zx_leave hlk9 (zx_noTab ht9 _) (Nat.le_of_ble_eq_true rfl) (Nat.le_of_ble_eq_true rfl) (t8 c4 hc8 x9))

/-- what finish gives: all bytes, or too many -/
def zp_fin (a ab V P : Nat) (cB : ClassId) : Outcome → va_W → Prop := fun o w =>
  (∃ (f : Nat → Int32) (w1 w2 : Int32), ((((P + 7) / 8 ≤ 16384) ∧ ∀ j, j < (P + 7) / 8 → f j = zby (V / 256 ^ j)) ∧ ∀ j, vp_nar .byte (f j) = f j) ∧ o = .returned (some (.int (nI ((P + 7) / 8)))) ∧ w = [(a, .inr (1, [.ref ab, .int (nI ((P + 7) / 8)), .int w1, .int w2])), (ab, .inl (cB, 16384, .inl f))]) ∨
  (∃ (f : Nat → Int32) (w0 w1 w2 : Int32), (16384 < (P + 7) / 8 ∧ ∀ j, vp_nar .byte (f j) = f j) ∧ ∃ x : Nat, o = .threw x ∧ w = [(a, .inr (1, [.ref ab, .int w0, .int w1, .int w2])), (ab, .inl (cB, 16384, .inl f)), (x, .inr (8, []))])
theorem k_BS_finish (l : Launch) (D : va_G) (cB cI cL : ClassId) (hl : l.stackTraces = false) (a ab n v b V P : Nat) (f : Nat → Int32) (h : zS f n v b V P) (hb : b < 8) (hn : n ≤ 16384) : zx_K l zB D zcl (zt cB cI cL) y_BS_finish b_BS_finish 1 (some .int) [] 0 0 (zr 9 1 6) [.ref a] [(a, .inr (1, [.ref ab, .int (nI n), .int (nI v), .int (nI b)])), (ab, .inl (cB, 16384, .inl f))] (zp_fin a ab V P cB) := by
  refine zx_K.mk (Nat.le_of_ble_eq_true rfl) (fun p e s mm below meth c C hr hlk ht hnm => ?_)
  have hv := zS_v h
  have hv2 : v < 2 ^ 31 := Nat.lt_trans hv (zp_pow (by omega))
  have key : nI b ≤ (0 : Int32) ↔ b ≤ 0 := zp_le rfl (by omega) (by decide)
  have h1 := h.1
  refine sg_BS_finish C hn hv2 hr hlk hl ht ?_ ?_ ?_
  · intro q
    have q2 := key.mp q
    have e1 : (P + 7) / 8 = n := by omega
    refine Or.inl ⟨f, nI v, nI b, ⟨⟨by omega, fun j hj => h.2.2.2.1 j (by omega)⟩, h.2.2.2.2⟩, by rw [e1], by rw [e1]⟩
  · intro q q3
    have q2 : ¬ b ≤ 0 := fun z => q (key.mpr z)
    have e1 : (P + 7) / 8 = n + 1 := by omega
    refine Or.inl ⟨upd f n (zby v), nI (v / 256), 0, ⟨⟨by omega, fun j hj => ?_⟩, fun j => ?_⟩, by rw [e1], by rw [e1]⟩
    · by_cases z : j = n
      · rw [z, pk_us, h.2.1]
      · rw [pk_un z]; exact h.2.2.2.1 j (by omega)
    · by_cases z : j = n
      · rw [z, pk_us]; exact zby_nar v
      · rw [pk_un z]; exact h.2.2.2.2 j
  · intro q q3 x
    have q2 : ¬ b ≤ 0 := fun z => q (key.mpr z)
    exact Or.inr ⟨f, nI n, nI v, nI b, ⟨by omega, h.2.2.2.2⟩, x, rfl, rfl⟩
set_option maxRecDepth 100000 in
set_option maxHeartbeats 4000000 in
theorem sg_BS_put {p : Program} {l : Launch} {e : Env} {s : State} {mi : MethodId} {args : Array Value} {below : List Frame} {meth : Method} {co : Code} {D : va_G} {cB cI cL : ClassId} {Q : State → Prop} {A : Nat → Prop} (C : zx_C p s mi args co b_BS_put 3 R_BS zB D zcl (zt cB cI cL) A) {a ab : Nat} {f : Nat → Int32} {n8 v8 b8 c8 k8 : Nat} (e11 : ((nI v8) ||| ((nI c8) <<< ((nI b8) &&& 31))) = (nI (v8 + c8 * 2 ^ b8))) (e21 : ((nI b8) + (nI k8)) = (nI (b8 + k8))) (k25 : zx_At p l e (zr 9 1 6) s mi args below meth co Q D zcl A 3 [(0, .ref a), (1, .int (nI c8)), (2, .int (nI k8))] [(a, .inr (1, [.ref ab, .int (nI n8), .int (nI (v8 + c8 * 2 ^ b8)), .int (nI (b8 + k8))])), (ab, .inl (cB, 16384, .inl f))] 0 0 25 []) : zx_At p l e (zr 9 1 6) s mi args below meth co Q D zcl A 3 [(0, .ref a), (1, .int (nI c8)), (2, .int (nI k8))] [(a, .inr (1, [.ref ab, .int (nI n8), .int (nI v8), .int (nI b8)])), (ab, .inl (cB, 16384, .inl f))] 0 0 0 [] := by
  refine zx_aload_n (pc := 0) C d_BS_put_0 rfl 0 rfl ?_
  refine zx_dup (pc := 1) C d_BS_put_1 rfl ?_
  refine zx_get (pc := 2) (ci := 1) (Cn := R_BS) (T := T_BS) (N := 4) (v := .int (nI v8)) C zu_BS 0 rfl rfl 2 (by decide) zw_102 rfl rfl d_BS_put_2 ?_
  refine zx_iload_n (pc := 5) C d_BS_put_5 rfl 1 rfl ?_
  refine zx_aload_n (pc := 6) C d_BS_put_6 rfl 0 rfl ?_
  refine zx_get (pc := 7) (ci := 1) (Cn := R_BS) (T := T_BS) (N := 4) (v := .int (nI b8)) C zu_BS 0 rfl rfl 3 (by decide) zw_103 rfl rfl d_BS_put_7 ?_
  refine zx_ishl (pc := 10) C d_BS_put_10 ?_
  refine zx_ior (pc := 11) C d_BS_put_11 ?_
  refine zx_seti (nI (v8 + c8 * 2 ^ b8)) (e11) ?_
  refine zx_put (pc := 12) (ci := 1) (Cn := R_BS) (T := T_BS) (N := 4) (v := .int (nI (v8 + c8 * 2 ^ b8))) (ty := .int) (ws' := [(a, .inr (1, [.ref ab, .int (nI n8), .int (nI (v8 + c8 * 2 ^ b8)), .int (nI b8)])), (ab, .inl (cB, 16384, .inl f))]) C zu_BS ty_BS tyk_BS nm_BS 0 rfl rfl 2 (by decide) zw_102 rfl rfl (by decide +kernel) rfl rfl (Nat.le_of_ble_eq_true rfl) rfl d_BS_put_12 ?_
  refine zx_aload_n (pc := 15) C d_BS_put_15 rfl 0 rfl ?_
  refine zx_dup (pc := 16) C d_BS_put_16 rfl ?_
  refine zx_get (pc := 17) (ci := 1) (Cn := R_BS) (T := T_BS) (N := 4) (v := .int (nI b8)) C zu_BS 0 rfl rfl 3 (by decide) zw_103 rfl rfl d_BS_put_17 ?_
  refine zx_iload_n (pc := 20) C d_BS_put_20 rfl 2 rfl ?_
  refine zx_iadd (pc := 21) C d_BS_put_21 ?_
  refine zx_seti (nI (b8 + k8)) (e21) ?_
  refine zx_put (pc := 22) (ci := 1) (Cn := R_BS) (T := T_BS) (N := 4) (v := .int (nI (b8 + k8))) (ty := .int) (ws' := [(a, .inr (1, [.ref ab, .int (nI n8), .int (nI (v8 + c8 * 2 ^ b8)), .int (nI (b8 + k8))])), (ab, .inl (cB, 16384, .inl f))]) C zu_BS ty_BS tyk_BS nm_BS 0 rfl rfl 3 (by decide) zw_103 rfl rfl (by decide +kernel) rfl rfl (Nat.le_of_ble_eq_true rfl) rfl d_BS_put_22 ?_
  exact k25

set_option maxRecDepth 100000 in
set_option maxHeartbeats 4000000 in
theorem sg_BS_put25 {p : Program} {l : Launch} {e : Env} {s : State} {mi : MethodId} {args : Array Value} {below : List Frame} {meth : Method} {co : Code} {D : va_G} {cB cI cL : ClassId} {w0 : va_W} {kr nr : Nat} {post : Outcome → va_W → Prop} (C : zx_C p s mi args co b_BS_put 3 R_BS zB D zcl (zt cB cI cL) (va_A w0 s.heap.size)) {a ab : Nat} {c9 k9 : Int32} {f : Nat → Int32} {n8 v8 b8 : Nat} (hn8 : n8 ≤ 16384) (hv8 : v8 < 2 ^ 31) (hr9 : meth.sig.returnType = none) (hlk9 : meth.locks = false) (hl9 : l.stackTraces = false) (ht9 : co.exceptionTable.toList.map (fun h => (h.startPc, h.endPc, h.handlerPc, h.catchType)) = []) (r52 : ((nI b8) < (8 : Int32)) → post (.returned none) [(a, .inr (1, [.ref ab, .int (nI n8), .int (nI v8), .int (nI b8)])), (ab, .inl (cB, 16384, .inl f))]) (e45 : (¬ (nI b8) < (8 : Int32)) → (n8 < 16384) → ((nI b8) - (8 : Int32)) = (nI (b8 - 8))) (k25 : (¬ (nI b8) < (8 : Int32)) → (n8 < 16384) → zx_At p l e (zr 9 1 6) s mi args below meth co (zx_Q below s D zcl w0 kr nr (zr 9 1 6) post) D zcl (va_A w0 s.heap.size) 3 [(0, .ref a), (1, .int c9), (2, .int k9)] [(a, .inr (1, [.ref ab, .int (nI (n8 + 1)), .int (nI (v8 / 256)), .int (nI (b8 - 8))])), (ab, .inl (cB, 16384, .inl (upd f n8 (zby v8))))] 0 0 25 []) (t35 : (¬ (nI b8) < (8 : Int32)) → (16384 ≤ n8) → ∀ x9 : Nat, post (.threw x9) [(a, .inr (1, [.ref ab, .int (nI n8), .int (nI v8), .int (nI b8)])), (ab, .inl (cB, 16384, .inl f)), (x9, .inr (8, []))]) : zx_At p l e (zr 9 1 6) s mi args below meth co (zx_Q below s D zcl w0 kr nr (zr 9 1 6) post) D zcl (va_A w0 s.heap.size) 3 [(0, .ref a), (1, .int c9), (2, .int k9)] [(a, .inr (1, [.ref ab, .int (nI n8), .int (nI v8), .int (nI b8)])), (ab, .inl (cB, 16384, .inl f))] 0 0 25 [] := by
  refine zx_aload_n (pc := 25) C d_BS_put_25 rfl 0 rfl ?_
  refine zx_get (pc := 26) (ci := 1) (Cn := R_BS) (T := T_BS) (N := 4) (v := .int (nI b8)) C zu_BS 0 rfl rfl 3 (by decide) zw_103 rfl rfl d_BS_put_26 ?_
  refine zx_bipush (pc := 29) C d_BS_put_29 (v := (8 : Int32)) (by decide) ?_
  refine zx_icmp_lt (pc := 31) C 52 d_BS_put_31 (by decide) (fun c31 => ?_) (fun c31 => ?_)
  · exact zx_vret (pc := 52) C hr9 hlk9 (Nat.zero_le _) (Nat.zero_le _) d_BS_put_52 (r52 c31)
  · refine zx_aload_n (pc := 34) C d_BS_put_34 rfl 0 rfl ?_
    refine zx_callV (pc := 35) (ix := 25) (As := []) (b := a) (q0 := 0) (wr := []) (st := []) C (zx_cw.of (C.w zw_382)) (by decide +kernel) ⟨by decide +kernel, by decide +kernel⟩ zw_381 zs_BS_putByte zw_379 rfl rfl rfl rfl rfl (k_BS_putByte l D cB cI cL hl9 a ab n8 v8 (nI b8) f hn8 hv8) rfl [0, 1] [] rfl rfl (by decide) (by decide) (by decide) (Nat.le_of_ble_eq_true rfl) (Nat.le_of_ble_eq_true rfl) (Nat.le_of_ble_eq_true rfl) (Nat.le_of_ble_eq_true rfl) d_BS_put_35 (fun o w1 hp => ?_)
    rcases hp with ⟨hc35, rfl, rfl⟩ | ⟨hc35, x9, rfl, rfl⟩
    · refine zx_rv (k2 := 0) (n2 := 0) rfl rfl ?_
      refine zx_ws (ws' := [(a, .inr (1, [.ref ab, .int (nI (n8 + 1)), .int (nI (v8 / 256)), .int (nI b8)])), (ab, .inl (cB, 16384, .inl (upd f n8 (zby v8))))]) [0, 1] (by decide) rfl ?_
      refine zx_aload_n (pc := 38) C d_BS_put_38 rfl 0 rfl ?_
      refine zx_dup (pc := 39) C d_BS_put_39 rfl ?_
      refine zx_get (pc := 40) (ci := 1) (Cn := R_BS) (T := T_BS) (N := 4) (v := .int (nI b8)) C zu_BS 0 rfl rfl 3 (by decide) zw_103 rfl rfl d_BS_put_40 ?_
      refine zx_bipush (pc := 43) C d_BS_put_43 (v := (8 : Int32)) (by decide) ?_
      refine zx_isub (pc := 45) C d_BS_put_45 ?_
      refine zx_seti (nI (b8 - 8)) (e45 c31 hc35) ?_
      refine zx_put (pc := 46) (ci := 1) (Cn := R_BS) (T := T_BS) (N := 4) (v := .int (nI (b8 - 8))) (ty := .int) (ws' := [(a, .inr (1, [.ref ab, .int (nI (n8 + 1)), .int (nI (v8 / 256)), .int (nI (b8 - 8))])), (ab, .inl (cB, 16384, .inl (upd f n8 (zby v8))))]) C zu_BS ty_BS tyk_BS nm_BS 0 rfl rfl 3 (by decide) zw_103 rfl rfl (by decide +kernel) rfl rfl (Nat.le_of_ble_eq_true rfl) rfl d_BS_put_46 ?_
      refine zx_goto (pc := 49) C 25 d_BS_put_49 (by decide) ?_
      exact k25 c31 hc35
    · exact zx_rt (k2 := 1) (n2 := 6) rfl rfl (zx_leave hlk9 (zx_noTab ht9 _) (Nat.le_of_ble_eq_true rfl) (Nat.le_of_ble_eq_true rfl) (t35 c31 hc35 x9))

/-- what put gives: the code behind the bits, or too many bytes -/
def zp_put (a ab V P : Nat) (cB : ClassId) : Outcome → va_W → Prop := fun o w =>
  (∃ (f : Nat → Int32) (n v b : Nat), (zS f n v b V P ∧ b < 8 ∧ n ≤ 16384) ∧ o = .returned none ∧ w = [(a, .inr (1, [.ref ab, .int (nI n), .int (nI v), .int (nI b)])), (ab, .inl (cB, 16384, .inl f))]) ∨
  (∃ (f : Nat → Int32) (n v b : Nat), (16384 < P / 8 ∧ ∀ j, vp_nar .byte (f j) = f j) ∧ ∃ x : Nat, o = .threw x ∧ w = [(a, .inr (1, [.ref ab, .int (nI n), .int (nI v), .int (nI b)])), (ab, .inl (cB, 16384, .inl f)), (x, .inr (8, []))])
set_option maxHeartbeats 1000000 in
theorem k_BS_put (l : Launch) (D : va_G) (cB cI cL : ClassId) (hl : l.stackTraces = false) (a ab n v b c k V P : Nat) (f : Nat → Int32) (h : zS f n v b V P) (hb : b < 8) (hn : n ≤ 16384) (hc : c < 2 ^ k) (hk : k ≤ 12) : zx_K l zB D zcl (zt cB cI cL) y_BS_put b_BS_put 3 (none) [] 0 0 (zr 9 1 6) [.ref a, .int (nI c), .int (nI k)] [(a, .inr (1, [.ref ab, .int (nI n), .int (nI v), .int (nI b)])), (ab, .inl (cB, 16384, .inl f))] (zp_put a ab (V + c * 2 ^ P) (P + k) cB) := by
  refine zx_K.mk (Nat.le_of_ble_eq_true rfl) (fun p e s mm below meth c9 C hr hlk ht hnm => ?_)
  have loop : ∀ (q : Nat) (b1 n1 v1 : Nat) (f1 : Nat → Int32), b1 < 8 * q + 8 → b1 < 31 → zS f1 n1 v1 b1 (V + c * 2 ^ P) (P + k) → n1 ≤ 16384 → zx_At p l e (zr 9 1 6) s mm (([.ref a, .int (nI c), .int (nI k)] : List Value)).toArray below meth c9 (zx_Q below s D zcl [(a, .inr (1, [.ref ab, .int (nI n), .int (nI v), .int (nI b)])), (ab, .inl (cB, 16384, .inl f))] 0 0 (zr 9 1 6) (zp_put a ab (V + c * 2 ^ P) (P + k) cB)) D zcl (va_A [(a, .inr (1, [.ref ab, .int (nI n), .int (nI v), .int (nI b)])), (ab, .inl (cB, 16384, .inl f))] s.heap.size) 3 [(0, .ref a), (1, .int (nI c)), (2, .int (nI k))] [(a, .inr (1, [.ref ab, .int (nI n1), .int (nI v1), .int (nI b1)])), (ab, .inl (cB, 16384, .inl f1))] 0 0 25 [] := by
    intro q
    induction q with
    | zero =>
      intro b1 n1 v1 f1 hq hb1 hz hn1
      have hv1 := zS_v hz
      have key : nI b1 < (8 : Int32) := (zp_lt (K := 8) rfl (by omega) (by decide)).mpr (by omega)
      exact sg_BS_put25 C hn1 (Nat.lt_trans hv1 (Nat.pow_lt_pow_right (by decide) (by omega))) hr hlk hl ht (fun _ => Or.inl ⟨f1, n1, v1, b1, ⟨hz, by omega, hn1⟩, rfl, rfl⟩) (fun z => absurd key z) (fun z => absurd key z) (fun z => absurd key z)
    | succ q ih =>
      intro b1 n1 v1 f1 hq hb1 hz hn1
      have hv1 := zS_v hz
      have key : nI b1 < (8 : Int32) ↔ b1 < 8 := zp_lt (K := 8) rfl (by omega) (by decide)
      refine sg_BS_put25 C hn1 (Nat.lt_trans hv1 (Nat.pow_lt_pow_right (by decide) (by omega))) hr hlk hl ht (fun z => Or.inl ⟨f1, n1, v1, b1, ⟨hz, key.mp z, hn1⟩, rfl, rfl⟩) (fun z _ => ?_) (fun z z2 => ?_) (fun z z2 x => ?_)
      · have z3 : ¬ b1 < 8 := fun y => z (key.mpr y)
        exact pk_sub (a := b1) (b := 8) (by omega)
      · have z3 : ¬ b1 < 8 := fun y => z (key.mpr y)
        exact ih (b1 - 8) (n1 + 1) (v1 / 256) (upd f1 n1 (zby v1)) (by omega) (by omega) (zS_step hz (by omega)) (by omega)
      · have z3 : ¬ b1 < 8 := fun y => z (key.mpr y)
        have h1 := hz.1
        exact Or.inr ⟨f1, n1, v1, b1, ⟨by omega, hz.2.2.2.2⟩, x, rfl, rfl⟩
  have hv := zS_v h
  refine sg_BS_put C (zp_or hv (by omega)) (nI_add b k) ?_
  exact loop 3 (b + k) n (v + c * 2 ^ b) f (by omega) (by omega) (zS_put h hc) hn
