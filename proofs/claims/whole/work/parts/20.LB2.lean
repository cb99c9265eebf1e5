theorem zi_nn {x : Int32} (h : ¬ x < 0) : ∃ k, x = nI k ∧ k < 2 ^ 31 := by
  refine ⟨x.toBitVec.toNat, zI_nat x, ?_⟩
  have h0 : (0 : Int) ≤ x.toInt := by
    have := Int32.not_lt.mp h
    simpa using Int32.le_iff_toInt_le.mp this
  have h1 : x.toInt = x.toBitVec.toInt := rfl
  rw [h1, BitVec.toInt_eq_toNat_cond] at h0
  have := x.toBitVec.isLt
  split at h0 <;> omega
theorem zm_ok {m9 : Int32} (h : ¬ (m9 < 2 ∨ 8 < m9)) : ∃ m, m9 = nI m ∧ (2 ≤ m ∧ m ≤ 8) := by
  have h1 : ¬ m9 < 2 := fun z => h (Or.inl z)
  have h2 : ¬ (8 : Int32) < m9 := fun z => h (Or.inr z)
  obtain ⟨k, hk, hk2⟩ := zi_nn (x := m9) (fun z => h1 (Int32.lt_of_lt_of_le z (by decide)))
  rw [hk] at h1 h2
  refine ⟨k, hk, ?_, ?_⟩
  · exact Nat.le_of_not_lt fun z => h1 ((zp_lt (k := 2) rfl hk2 (by decide)).mpr z)
  · exact Nat.le_of_not_lt fun z => h2 ((zp_gt (k := 8) rfl hk2 (by decide)).mpr z)
theorem zm_no {m : Nat} (h : 2 ≤ m ∧ m ≤ 8) : ¬ (nI m < 2 ∨ (8 : Int32) < nI m) := by
  intro z
  rcases z with z | z
  · have := (zp_lt (k := 2) rfl (by omega) (by decide)).mp z; omega
  · have := (zp_gt (k := 8) rfl (by omega) (by decide)).mp z; omega
/-- the tape's first i bytes masked -/
def zmk (m : Nat) (f : Nat → Int32) (i : Nat) : Nat → Int32 := fun j => if j < i then (f j &&& nI (2 ^ m - 1)).toInt8.toInt32 else f j
theorem zmk_0 (m : Nat) (f : Nat → Int32) : zmk m f 0 = f := by funext j; simp [zmk]
theorem zmk_at (m : Nat) (f : Nat → Int32) (i : Nat) : zmk m f i i = f i := by simp [zmk]
theorem zmk_s (m : Nat) (f : Nat → Int32) (i : Nat) : upd (zmk m f i) i (vp_nar .byte (zmk m f i i &&& nI (2 ^ m - 1)).toInt8.toInt32) = zmk m f (i + 1) := by
  funext j
  rw [zmk_at, pk_vb]
  unfold upd zmk
  by_cases h : j = i
  · subst h; rw [if_pos rfl, if_pos (Nat.lt_succ_self _)]
  · rw [if_neg h]
    by_cases h2 : j < i
    · rw [if_pos h2, if_pos (by omega)]
    · rw [if_neg h2, if_neg (by omega)]
theorem zmk_by {m : Nat} {f : Nat → Int32} {i : Nat} (h : ∀ j, vp_nar .byte (f j) = f j) : ∀ j, vp_nar .byte (zmk m f i j) = zmk m f i j := fun j => by
  unfold zmk
  by_cases q : j < i
  · rw [if_pos q]; exact pk_vb _
  · rw [if_neg q]; exact h j
theorem zsub1 {k : Nat} (h : 1 ≤ k) : nI k - 1 = nI (k - 1) := by
  have e : nI k = nI (k - 1) + 1 := by rw [nI_1]; congr 1; omega
  rw [e]
  apply Int32.toBitVec_inj.mp
  simp
set_option maxRecDepth 100000 in
set_option maxHeartbeats 4000000 in
theorem sg_LB_mask0 {p : Program} {l : Launch} {e : Env} {s : State} {mi : MethodId} {args : Array Value} {below : List Frame} {meth : Method} {co : Code} {D : va_G} {cB cI cL : ClassId} {w0 : va_W} {kr nr : Nat} {post : Outcome → va_W → Prop} (C : zx_C p s mi args co b_LB_mask 4 R_LB zB D zcl (zt cB cI cL) (va_A w0 s.heap.size)) {ax t rr sp ua pa n r : Nat} {m9 : Int32} {f : Nat → Int32} (hr9 : meth.sig.returnType = none) (hlk9 : meth.locks = false) (hl9 : l.stackTraces = false) (ht9 : co.exceptionTable.toList.map (fun h => (h.startPc, h.endPc, h.handlerPc, h.catchType)) = []) (t1 : (m9 < 2 ∨ 8 < m9) → ∀ x9 : Nat, post (.threw x9) [(ax, .inr (4, [.ref t, .int (nI n), .ref rr, .ref sp, .int (nI r), .ref ua, .ref pa])), (t, .inl (cB, 16384, .inl f)), (x9, .inr (6, []))]) (k4 : (¬ (m9 < 2 ∨ 8 < m9)) → zx_At p l e (zr 9 1 6) s mi args below meth co (zx_Q below s D zcl w0 kr nr (zr 9 1 6) post) D zcl (va_A w0 s.heap.size) 4 [(0, .ref ax), (1, .int m9)] [(ax, .inr (4, [.ref t, .int (nI n), .ref rr, .ref sp, .int (nI r), .ref ua, .ref pa])), (t, .inl (cB, 16384, .inl f))] 0 0 4 []) : zx_At p l e (zr 9 1 6) s mi args below meth co (zx_Q below s D zcl w0 kr nr (zr 9 1 6) post) D zcl (va_A w0 s.heap.size) 4 [(0, .ref ax), (1, .int m9)] [(ax, .inr (4, [.ref t, .int (nI n), .ref rr, .ref sp, .int (nI r), .ref ua, .ref pa])), (t, .inl (cB, 16384, .inl f))] 0 0 0 [] := by
  refine zx_iload_n (pc := 0) C d_LB_mask_0 rfl 1 rfl ?_
  refine zx_callS (pc := 1) (ix := 62) (wr := [(ax, .inr (4, [.ref t, .int (nI n), .ref rr, .ref sp, .int (nI r), .ref ua, .ref pa])), (t, .inl (cB, 16384, .inl f))]) (st := []) C (zx_cw.of (C.w zw_272)) (by decide +kernel) ⟨by decide +kernel, by decide +kernel⟩ zw_271 zw_1 zw_270 rfl (k_LB_checkM l D cB cI cL hl9 m9) rfl [] [0, 1] rfl rfl (by decide) (by decide) (by decide) (Nat.le_of_ble_eq_true rfl) (Nat.le_of_ble_eq_true rfl) (Nat.le_of_ble_eq_true rfl) (Nat.le_of_ble_eq_true rfl) d_LB_mask_1 (fun o w1 hp => ?_)
  rcases hp with ⟨hc1, x9, rfl, rfl⟩ | ⟨hc1, rfl, rfl⟩
  · exact zx_rt (k2 := 1) (n2 := 6) rfl rfl (zx_leave hlk9 (zx_noTab ht9 _) (Nat.le_of_ble_eq_true rfl) (Nat.le_of_ble_eq_true rfl) (t1 hc1 x9))
  · refine zx_rv (k2 := 0) (n2 := 0) rfl rfl ?_
    refine zx_ws (ws' := [(ax, .inr (4, [.ref t, .int (nI n), .ref rr, .ref sp, .int (nI r), .ref ua, .ref pa])), (t, .inl (cB, 16384, .inl f))]) [0, 1] (by decide) rfl ?_
    exact k4 hc1

set_option maxRecDepth 100000 in
set_option maxHeartbeats 4000000 in
theorem sg_LB_mask4 {p : Program} {l : Launch} {e : Env} {R : Room} {s : State} {mi : MethodId} {args : Array Value} {below : List Frame} {meth : Method} {co : Code} {D : va_G} {cB cI cL : ClassId} {Q : State → Prop} {A : Nat → Prop} (C : zx_C p s mi args co b_LB_mask 4 R_LB zB D zcl (zt cB cI cL) A) {ax t rr sp ua pa n r m : Nat} {f : Nat → Int32} (e6 : ((1 : Int32) <<< ((nI m) &&& 31)) = (nI (2 ^ m))) (e8 : ((nI (2 ^ m)) - (1 : Int32)) = (nI (2 ^ m - 1))) (k12 : zx_At p l e R s mi args below meth co Q D zcl A 4 [(0, .ref ax), (1, .int (nI m)), (2, .int (nI (2 ^ m - 1))), (3, .int (0 : Int32))] [(ax, .inr (4, [.ref t, .int (nI n), .ref rr, .ref sp, .int (nI r), .ref ua, .ref pa])), (t, .inl (cB, 16384, .inl f))] 0 0 12 []) : zx_At p l e R s mi args below meth co Q D zcl A 4 [(0, .ref ax), (1, .int (nI m))] [(ax, .inr (4, [.ref t, .int (nI n), .ref rr, .ref sp, .int (nI r), .ref ua, .ref pa])), (t, .inl (cB, 16384, .inl f))] 0 0 4 [] := by
  refine zx_iconst (pc := 4) C d_LB_mask_4 (v := (1 : Int32)) (by decide) ?_
  refine zx_iload_n (pc := 5) C d_LB_mask_5 rfl 1 rfl ?_
  refine zx_ishl (pc := 6) C d_LB_mask_6 ?_
  refine zx_seti (nI (2 ^ m)) (e6) ?_
  refine zx_iconst (pc := 7) C d_LB_mask_7 (v := (1 : Int32)) (by decide) ?_
  refine zx_isub (pc := 8) C d_LB_mask_8 ?_
  refine zx_seti (nI (2 ^ m - 1)) (e8) ?_
  refine zx_istore_n (pc := 9) C d_LB_mask_9 rfl (by decide) (lv' := [(2, .int (nI (2 ^ m - 1))), (0, .ref ax), (1, .int (nI m))]) rfl ?_
  refine zx_iconst (pc := 10) C d_LB_mask_10 (v := (0 : Int32)) (by decide) ?_
  refine zx_istore_n (pc := 11) C d_LB_mask_11 rfl (by decide) (lv' := [(3, .int (0 : Int32)), (2, .int (nI (2 ^ m - 1))), (0, .ref ax), (1, .int (nI m))]) rfl ?_
  refine zx_lv (lv' := [(0, .ref ax), (1, .int (nI m)), (2, .int (nI (2 ^ m - 1))), (3, .int (0 : Int32))]) [2, 3, 1, 0] rfl ?_
  exact k12

set_option maxRecDepth 100000 in
set_option maxHeartbeats 4000000 in
theorem sg_LB_mask12 {p : Program} {l : Launch} {e : Env} {R : Room} {s : State} {mi : MethodId} {args : Array Value} {below : List Frame} {meth : Method} {co : Code} {D : va_G} {cB cI cL : ClassId} {w0 : va_W} {kr nr : Nat} {post : Outcome → va_W → Prop} (C : zx_C p s mi args co b_LB_mask 4 R_LB zB D zcl (zt cB cI cL) (va_A w0 s.heap.size)) {ax t rr sp ua pa n r m i : Nat} {f : Nat → Int32} (hr9 : meth.sig.returnType = none) (hlk9 : meth.locks = false) (r41 : ((nI n) ≤ (nI i)) → post (.returned none) [(ax, .inr (4, [.ref t, .int (nI n), .ref rr, .ref sp, .int (nI r), .ref ua, .ref pa])), (t, .inl (cB, 16384, .inl f))]) (b30 : (¬ (nI n) ≤ (nI i)) → (nI i) = nI i ∧ i < 16384) (b34 : (¬ (nI n) ≤ (nI i)) → (nI i) = nI i ∧ i < 16384) (e35 : (¬ (nI n) ≤ (nI i)) → (nI i) + (1 : Int32) = (nI (i + 1))) (k12 : (¬ (nI n) ≤ (nI i)) → zx_At p l e R s mi args below meth co (zx_Q below s D zcl w0 kr nr R post) D zcl (va_A w0 s.heap.size) 4 [(0, .ref ax), (1, .int (nI m)), (2, .int (nI (2 ^ m - 1))), (3, .int (nI (i + 1)))] [(ax, .inr (4, [.ref t, .int (nI n), .ref rr, .ref sp, .int (nI r), .ref ua, .ref pa])), (t, .inl (cB, 16384, .inl (upd f i (vp_nar .byte (((f i) &&& (nI (2 ^ m - 1))).toInt8.toInt32)))))] 0 0 12 []) : zx_At p l e R s mi args below meth co (zx_Q below s D zcl w0 kr nr R post) D zcl (va_A w0 s.heap.size) 4 [(0, .ref ax), (1, .int (nI m)), (2, .int (nI (2 ^ m - 1))), (3, .int (nI i))] [(ax, .inr (4, [.ref t, .int (nI n), .ref rr, .ref sp, .int (nI r), .ref ua, .ref pa])), (t, .inl (cB, 16384, .inl f))] 0 0 12 [] := by
  refine zx_iload_n (pc := 12) C d_LB_mask_12 rfl 3 rfl ?_
  refine zx_aload_n (pc := 13) C d_LB_mask_13 rfl 0 rfl ?_
  refine zx_get (pc := 14) (ci := 4) (Cn := R_LB) (T := T_LB) (N := 7) (v := .int (nI n)) C zu_LB 0 rfl rfl 1 (by decide) zw_130 rfl rfl d_LB_mask_14 ?_
  refine zx_icmp_ge (pc := 17) C 41 d_LB_mask_17 (by decide) (fun c17 => ?_) (fun c17 => ?_)
  · exact zx_vret (pc := 41) C hr9 hlk9 (Nat.zero_le _) (Nat.zero_le _) d_LB_mask_41 (r41 c17)
  · refine zx_aload_n (pc := 20) C d_LB_mask_20 rfl 0 rfl ?_
    refine zx_get (pc := 21) (ci := 4) (Cn := R_LB) (T := T_LB) (N := 7) (v := .ref t) C zu_LB 0 rfl rfl 0 (by decide) zw_129 rfl rfl d_LB_mask_21 ?_
    refine zx_iload_n (pc := 24) C d_LB_mask_24 rfl 3 rfl ?_
    refine zx_aload_n (pc := 25) C d_LB_mask_25 rfl 0 rfl ?_
    refine zx_get (pc := 26) (ci := 4) (Cn := R_LB) (T := T_LB) (N := 7) (v := .ref t) C zu_LB 0 rfl rfl 0 (by decide) zw_129 rfl rfl d_LB_mask_26 ?_
    refine zx_iload_n (pc := 29) C d_LB_mask_29 rfl 3 rfl ?_
    refine zx_bald (pc := 30) C 1 0 rfl rfl i (b30 c17).1 (b30 c17).2 (by decide) d_LB_mask_30 ?_
    refine zx_iload_n (pc := 31) C d_LB_mask_31 rfl 2 rfl ?_
    refine zx_iand (pc := 32) C d_LB_mask_32 ?_
    refine zx_i2b (pc := 33) C d_LB_mask_33 rfl ?_
    refine zx_bast (pc := 34) (ws' := [(ax, .inr (4, [.ref t, .int (nI n), .ref rr, .ref sp, .int (nI r), .ref ua, .ref pa])), (t, .inl (cB, 16384, .inl (upd f i (vp_nar .byte (((f i) &&& (nI (2 ^ m - 1))).toInt8.toInt32)))))]) C 1 0 rfl rfl i (b34 c17).1 (b34 c17).2 (by decide) rfl d_LB_mask_34 ?_
    refine zx_iinc (pc := 35) C d_LB_mask_35 3 rfl (v := (nI (i + 1))) (e35 c17) (by decide) (lv' := [(3, .int (nI (i + 1))), (0, .ref ax), (1, .int (nI m)), (2, .int (nI (2 ^ m - 1)))]) rfl ?_
    refine zx_goto (pc := 38) C 12 d_LB_mask_38 (by decide) ?_
    refine zx_lv (lv' := [(0, .ref ax), (1, .int (nI m)), (2, .int (nI (2 ^ m - 1))), (3, .int (nI (i + 1)))]) [1, 2, 3, 0] rfl ?_
    exact k12 c17

theorem k_LB_mask (l : Launch) (D : va_G) (cB cI cL : ClassId) (hl : l.stackTraces = false) (ax t rr sp ua pa n r : Nat) (m9 : Int32) (f : Nat → Int32) (hn : n ≤ 16384) : zx_K l zB D zcl (zt cB cI cL) y_LB_mask b_LB_mask 4 (none) [] 0 0 (zr 9 1 6) [.ref ax, .int m9] [(ax, .inr (4, [.ref t, .int (nI n), .ref rr, .ref sp, .int (nI r), .ref ua, .ref pa])), (t, .inl (cB, 16384, .inl f))] (fun o w => ((m9 < 2 ∨ 8 < m9) ∧ ∃ x0 : Nat, o = .threw x0 ∧ w = [(ax, .inr (4, [.ref t, .int (nI n), .ref rr, .ref sp, .int (nI r), .ref ua, .ref pa])), (t, .inl (cB, 16384, .inl f)), (x0, .inr (6, []))]) ∨ (∃ m1 : Nat, (m9 = nI m1 ∧ 2 ≤ m1 ∧ m1 ≤ 8) ∧ o = .returned none ∧ w = [(ax, .inr (4, [.ref t, .int (nI n), .ref rr, .ref sp, .int (nI r), .ref ua, .ref pa])), (t, .inl (cB, 16384, .inl (zmk m1 f n)))])) := by
  refine zx_K.mk (Nat.le_of_ble_eq_true rfl) (fun p e s mm below meth c9 C hr hlk ht hnm => ?_)
  refine sg_LB_mask0 C hr hlk hl ht (fun h x0 => Or.inl ⟨h, x0, rfl, rfl⟩) (fun h => ?_)
  obtain ⟨m, hm9, hm⟩ := zm_ok h
  subst hm9
  have hp8 := zp_pow8 hm.2
  have hp1 : 1 ≤ 2 ^ m := Nat.one_le_two_pow
  have loop : ∀ (d i : Nat), i + d = n → zx_At p l e (zr 9 1 6) s mm (([.ref ax, .int (nI m)] : List Value)).toArray below meth c9 (zx_Q below s D zcl [(ax, .inr (4, [.ref t, .int (nI n), .ref rr, .ref sp, .int (nI r), .ref ua, .ref pa])), (t, .inl (cB, 16384, .inl f))] 0 0 (zr 9 1 6) (fun o w => (((nI m) < 2 ∨ 8 < (nI m)) ∧ ∃ x0 : Nat, o = .threw x0 ∧ w = [(ax, .inr (4, [.ref t, .int (nI n), .ref rr, .ref sp, .int (nI r), .ref ua, .ref pa])), (t, .inl (cB, 16384, .inl f)), (x0, .inr (6, []))]) ∨ (∃ m1 : Nat, ((nI m) = nI m1 ∧ 2 ≤ m1 ∧ m1 ≤ 8) ∧ o = .returned none ∧ w = [(ax, .inr (4, [.ref t, .int (nI n), .ref rr, .ref sp, .int (nI r), .ref ua, .ref pa])), (t, .inl (cB, 16384, .inl (zmk m1 f n)))]))) D zcl (va_A [(ax, .inr (4, [.ref t, .int (nI n), .ref rr, .ref sp, .int (nI r), .ref ua, .ref pa])), (t, .inl (cB, 16384, .inl f))] s.heap.size) 4 [(0, .ref ax), (1, .int (nI m)), (2, .int (nI (2 ^ m - 1))), (3, .int (nI i))] [(ax, .inr (4, [.ref t, .int (nI n), .ref rr, .ref sp, .int (nI r), .ref ua, .ref pa])), (t, .inl (cB, 16384, .inl (zmk m f i)))] 0 0 12 [] := by
    intro d
    induction d with
    | zero =>
      intro i hi
      have key : nI n ≤ nI i := by rw [show i = n by omega]; exact Int32.le_refl _
      exact sg_LB_mask12 C hr hlk (fun _ => Or.inr ⟨m, ⟨rfl, hm⟩, rfl, by rw [show i = n by omega]⟩) (fun z => absurd key z) (fun z => absurd key z) (fun z => absurd key z) (fun z => absurd key z)
    | succ d ih =>
      intro i hi
      have nk : ¬ nI n ≤ nI i := fun z => absurd ((nI_leI (by omega) (by omega)).mp z) (by omega)
      refine sg_LB_mask12 C hr hlk (fun z => absurd z nk) (fun _ => ⟨rfl, by omega⟩) (fun _ => ⟨rfl, by omega⟩) (fun _ => nI_1 i) (fun _ => ?_)
      rw [zmk_s]
      exact ih (i + 1) (by omega)
  refine sg_LB_mask4 C (zp_shl1 m (by omega)) (zsub1 hp1) ?_
  have h0 := loop n 0 (by omega)
  rw [zmk_0] at h0
  exact h0
theorem zl_step (x : Int64) {v : Nat} (hv : v < 256) : (x <<< ((8 : Int32).toInt64 &&& 63)) ||| (nI v).toInt64 = x * 256 + (nI v).toInt64 := by
  have e1 : ((8 : Int32).toInt64 &&& 63) = 8 := by decide
  rw [e1]
  have e2 : (nI v).toInt64.toBitVec = BitVec.ofNat 64 v := by
    show (nI v).toBitVec.signExtend 64 = BitVec.ofNat 64 v
    have hb : (nI v).toBitVec = BitVec.ofNat 32 v := rfl
    rw [hb, BitVec.signExtend_eq_setWidth_of_msb_false]
    · apply BitVec.eq_of_toNat_eq
      simp only [BitVec.toNat_setWidth, BitVec.toNat_ofNat]
      omega
    · rw [BitVec.msb_eq_decide, decide_eq_false_iff_not]
      simp only [BitVec.toNat_ofNat]
      omega
  apply Int64.toBitVec_inj.mp
  show (x.toBitVec <<< ((8 : Int64).toBitVec.smod 64)) ||| (nI v).toInt64.toBitVec = x.toBitVec * (256 : BitVec 64) + (nI v).toInt64.toBitVec
  rw [e2]
  have e3 : (8 : Int64).toBitVec.smod 64 = 8#64 := by decide
  rw [e3]
  have e4 : x.toBitVec * (256 : BitVec 64) = x.toBitVec <<< 8#64 := by
    apply BitVec.eq_of_toNat_eq
    simp only [BitVec.toNat_mul, BitVec.shiftLeft_eq', BitVec.toNat_shiftLeft, BitVec.toNat_ofNat]
    rw [Nat.shiftLeft_eq]
    rfl
  rw [e4]
  symm
  apply BitVec.add_eq_or_of_and_eq_zero
  apply BitVec.eq_of_getLsbD_eq
  intro i hi
  rw [BitVec.getLsbD_and, BitVec.shiftLeft_eq', BitVec.getLsbD_shiftLeft, BitVec.getLsbD_ofNat, BitVec.getLsbD_zero]
  by_cases h8 : i < 8
  · have : decide (i < (8#64).toNat) = true := decide_eq_true (by show i < 8; exact h8)
    rw [this]; simp
  · have : v.testBit i = false := Nat.testBit_lt_two_pow (Nat.lt_of_lt_of_le hv (Nat.pow_le_pow_right (n := 2) (i := 8) (by decide) (by omega)))
    rw [this]; simp
/-- the first k of the digits g, as a long -/
def zwd (g : Nat → Nat) : Nat → Int64
  | 0 => 0
  | k + 1 => zwd g k * 256 + (nI (g k)).toInt64
/-- the digits of word i -/
def zwg (f : Nat → Int32) (r i : Nat) : Nat → Nat := fun k => if i + k < r then zu (f (i + k)) else 0
theorem zwg_lt (f : Nat → Int32) (r i k : Nat) : zwg f r i k < 256 := by
  unfold zwg
  by_cases h : i + k < r
  · rw [if_pos h]; exact zu_lt _
  · rw [if_neg h]; decide
theorem nI_addI (a b : Nat) : nI a + nI b = nI (a + b) := by
  apply Int32.toBitVec_inj.mp
  apply BitVec.eq_of_toNat_eq
  simp [nI]
set_option maxRecDepth 100000 in
set_option maxHeartbeats 4000000 in
theorem sg_LB_word0 {p : Program} {l : Launch} {e : Env} {s : State} {mi : MethodId} {args : Array Value} {below : List Frame} {meth : Method} {co : Code} {D : va_G} {cB cI cL : ClassId} {w0 : va_W} {kr nr : Nat} {post : Outcome → va_W → Prop} (C : zx_C p s mi args co b_LB_word 6 R_LB zB D zcl (zt cB cI cL) (va_A w0 s.heap.size)) {ax t rr sp ua pa n r : Nat} {i9 : Int32} {f : Nat → Int32} (hr9 : meth.sig.returnType = some .long) (hlk9 : meth.locks = false) (hl9 : l.stackTraces = false) (ht9 : co.exceptionTable.toList.map (fun h => (h.startPc, h.endPc, h.handlerPc, h.catchType)) = []) (t12 : (i9 < 0) → ∀ x9 : Nat, post (.threw x9) [(ax, .inr (4, [.ref t, .int (nI n), .ref rr, .ref sp, .int (nI r), .ref ua, .ref pa])), (rr, .inl (cB, 16384, .inl f)), (x9, .inr (8, []))]) (k27 : (¬ i9 < 0) → (i9 < (nI r)) → zx_At p l e (zr 8 1 6) s mi args below meth co (zx_Q below s D zcl w0 kr nr (zr 8 1 6) post) D zcl (va_A w0 s.heap.size) 6 [(0, .ref ax), (1, .int i9), (2, .long (0 : Int64)), (4, .int (0 : Int32))] [(ax, .inr (4, [.ref t, .int (nI n), .ref rr, .ref sp, .int (nI r), .ref ua, .ref pa])), (rr, .inl (cB, 16384, .inl f))] 0 0 27 []) (t12_2 : (¬ i9 < 0) → (¬ i9 < (nI r)) → ∀ x9 : Nat, post (.threw x9) [(ax, .inr (4, [.ref t, .int (nI n), .ref rr, .ref sp, .int (nI r), .ref ua, .ref pa])), (rr, .inl (cB, 16384, .inl f)), (x9, .inr (8, []))]) : zx_At p l e (zr 8 1 6) s mi args below meth co (zx_Q below s D zcl w0 kr nr (zr 8 1 6) post) D zcl (va_A w0 s.heap.size) 6 [(0, .ref ax), (1, .int i9)] [(ax, .inr (4, [.ref t, .int (nI n), .ref rr, .ref sp, .int (nI r), .ref ua, .ref pa])), (rr, .inl (cB, 16384, .inl f))] 0 0 0 [] := by
  refine zx_iload_n (pc := 0) C d_LB_word_0 rfl 1 rfl ?_
  refine zx_if_lt (pc := 1) C 12 d_LB_word_1 (by decide) (fun c1 => ?_) (fun c1 => ?_)
  · exact zx_throwS (pc := 12) (names := zex) (ci := 8) C hl9 (by decide +kernel) zex_fit zw_166 zw_10 zw_686 zh_LB_44 rfl hlk9 (zx_noTab ht9 _) d_LB_word_12 d_LB_word_15 d_LB_word_16 d_LB_word_18 d_LB_word_21 (Nat.le_of_ble_eq_true rfl) (Nat.le_of_ble_eq_true rfl) (Nat.le_of_ble_eq_true rfl) (Nat.le_of_ble_eq_true rfl) (t12 c1)
  · refine zx_iload_n (pc := 4) C d_LB_word_4 rfl 1 rfl ?_
    refine zx_aload_n (pc := 5) C d_LB_word_5 rfl 0 rfl ?_
    refine zx_get (pc := 6) (ci := 4) (Cn := R_LB) (T := T_LB) (N := 7) (v := .int (nI r)) C zu_LB 0 rfl rfl 4 (by decide) zw_133 rfl rfl d_LB_word_6 ?_
    refine zx_icmp_lt (pc := 9) C 22 d_LB_word_9 (by decide) (fun c9 => ?_) (fun c9 => ?_)
    · refine zx_lconst (pc := 22) C d_LB_word_22 (v := (0 : Int64)) (by decide) ?_
      refine zx_lstore_n (pc := 23) C d_LB_word_23 rfl (by decide) (lv' := [(2, .long (0 : Int64)), (0, .ref ax), (1, .int i9)]) rfl ?_
      refine zx_iconst (pc := 24) C d_LB_word_24 (v := (0 : Int32)) (by decide) ?_
      refine zx_istore (pc := 25) C d_LB_word_25 (by decide) (lv' := [(4, .int (0 : Int32)), (2, .long (0 : Int64)), (0, .ref ax), (1, .int i9)]) rfl ?_
      refine zx_lv (lv' := [(0, .ref ax), (1, .int i9), (2, .long (0 : Int64)), (4, .int (0 : Int32))]) [2, 3, 1, 0] rfl ?_
      exact k27 c1 c9
    · exact zx_throwS (pc := 12) (names := zex) (ci := 8) C hl9 (by decide +kernel) zex_fit zw_166 zw_10 zw_686 zh_LB_44 rfl hlk9 (zx_noTab ht9 _) d_LB_word_12 d_LB_word_15 d_LB_word_16 d_LB_word_18 d_LB_word_21 (Nat.le_of_ble_eq_true rfl) (Nat.le_of_ble_eq_true rfl) (Nat.le_of_ble_eq_true rfl) (Nat.le_of_ble_eq_true rfl) (t12_2 c1 c9)

set_option maxRecDepth 100000 in
set_option maxHeartbeats 4000000 in
theorem sg_LB_word27 {p : Program} {l : Launch} {e : Env} {R : Room} {s : State} {mi : MethodId} {args : Array Value} {below : List Frame} {meth : Method} {co : Code} {D : va_G} {cB cI cL : ClassId} {w0 : va_W} {kr nr : Nat} {post : Outcome → va_W → Prop} (C : zx_C p s mi args co b_LB_word 6 R_LB zB D zcl (zt cB cI cL) (va_A w0 s.heap.size)) {ax t rr sp ua pa n r i k : Nat} {x9 : Int64} {f : Nat → Int32} (hr9 : meth.sig.returnType = some .long) (hlk9 : meth.locks = false) (r80 : ((8 : Int32) ≤ (nI k)) → post (.returned (some (.long x9))) [(ax, .inr (4, [.ref t, .int (nI n), .ref rr, .ref sp, .int (nI r), .ref ua, .ref pa])), (rr, .inl (cB, 16384, .inl f))]) (e37 : (¬ (8 : Int32) ≤ (nI k)) → ((nI i) + (nI k)) = (nI (i + k))) (k62 : (¬ (8 : Int32) ≤ (nI k)) → ((nI r) ≤ (nI (i + k))) → zx_At p l e R s mi args below meth co (zx_Q below s D zcl w0 kr nr R post) D zcl (va_A w0 s.heap.size) 6 [(0, .ref ax), (1, .int (nI i)), (2, .long x9), (4, .int (nI k))] [(ax, .inr (4, [.ref t, .int (nI n), .ref rr, .ref sp, .int (nI r), .ref ua, .ref pa])), (rr, .inl (cB, 16384, .inl f))] 0 0 62 [.int (0 : Int32)]) (e52 : (¬ (8 : Int32) ≤ (nI k)) → (¬ (nI r) ≤ (nI (i + k))) → ((nI i) + (nI k)) = (nI (i + k))) (b53 : (¬ (8 : Int32) ≤ (nI k)) → (¬ (nI r) ≤ (nI (i + k))) → (nI (i + k)) = nI (i + k) ∧ (i + k) < 16384) (e57 : (¬ (8 : Int32) ≤ (nI k)) → (¬ (nI r) ≤ (nI (i + k))) → ((f (i + k)) &&& (255 : Int32)) = (nI (zu (f (i + k))))) (k62_2 : (¬ (8 : Int32) ≤ (nI k)) → (¬ (nI r) ≤ (nI (i + k))) → zx_At p l e R s mi args below meth co (zx_Q below s D zcl w0 kr nr R post) D zcl (va_A w0 s.heap.size) 6 [(0, .ref ax), (1, .int (nI i)), (2, .long x9), (4, .int (nI k))] [(ax, .inr (4, [.ref t, .int (nI n), .ref rr, .ref sp, .int (nI r), .ref ua, .ref pa])), (rr, .inl (cB, 16384, .inl f))] 0 0 62 [.int (nI (zu (f (i + k))))]) : zx_At p l e R s mi args below meth co (zx_Q below s D zcl w0 kr nr R post) D zcl (va_A w0 s.heap.size) 6 [(0, .ref ax), (1, .int (nI i)), (2, .long x9), (4, .int (nI k))] [(ax, .inr (4, [.ref t, .int (nI n), .ref rr, .ref sp, .int (nI r), .ref ua, .ref pa])), (rr, .inl (cB, 16384, .inl f))] 0 0 27 [] := by
  refine zx_iload (pc := 27) C d_LB_word_27 3 rfl ?_
  refine zx_bipush (pc := 29) C d_LB_word_29 (v := (8 : Int32)) (by decide) ?_
  refine zx_icmp_ge (pc := 31) C 79 d_LB_word_31 (by decide) (fun c31 => ?_) (fun c31 => ?_)
  · refine zx_lload_n (pc := 79) C d_LB_word_79 rfl 2 rfl ?_
    exact zx_lret (pc := 80) C hr9 hlk9 (Nat.zero_le _) (Nat.zero_le _) d_LB_word_80 (r80 c31)
  · refine zx_iload_n (pc := 34) C d_LB_word_34 rfl 1 rfl ?_
    refine zx_iload (pc := 35) C d_LB_word_35 3 rfl ?_
    refine zx_iadd (pc := 37) C d_LB_word_37 ?_
    refine zx_seti (nI (i + k)) (e37 c31) ?_
    refine zx_aload_n (pc := 38) C d_LB_word_38 rfl 0 rfl ?_
    refine zx_get (pc := 39) (ci := 4) (Cn := R_LB) (T := T_LB) (N := 7) (v := .int (nI r)) C zu_LB 0 rfl rfl 4 (by decide) zw_133 rfl rfl d_LB_word_39 ?_
    refine zx_icmp_ge (pc := 42) C 61 d_LB_word_42 (by decide) (fun c42 => ?_) (fun c42 => ?_)
    · refine zx_iconst (pc := 61) C d_LB_word_61 (v := (0 : Int32)) (by decide) ?_
      exact k62 c31 c42
    · refine zx_aload_n (pc := 45) C d_LB_word_45 rfl 0 rfl ?_
      refine zx_get (pc := 46) (ci := 4) (Cn := R_LB) (T := T_LB) (N := 7) (v := .ref rr) C zu_LB 0 rfl rfl 2 (by decide) zw_131 rfl rfl d_LB_word_46 ?_
      refine zx_iload_n (pc := 49) C d_LB_word_49 rfl 1 rfl ?_
      refine zx_iload (pc := 50) C d_LB_word_50 3 rfl ?_
      refine zx_iadd (pc := 52) C d_LB_word_52 ?_
      refine zx_seti (nI (i + k)) (e52 c31 c42) ?_
      refine zx_bald (pc := 53) C 1 0 rfl rfl (i + k) (b53 c31 c42).1 (b53 c31 c42).2 (by decide) d_LB_word_53 ?_
      refine zx_sipush (pc := 54) C d_LB_word_54 (v := (255 : Int32)) (by decide) ?_
      refine zx_iand (pc := 57) C d_LB_word_57 ?_
      refine zx_seti (nI (zu (f (i + k)))) (e57 c31 c42) ?_
      refine zx_goto (pc := 58) C 62 d_LB_word_58 (by decide) ?_
      exact k62_2 c31 c42

set_option maxRecDepth 100000 in
set_option maxHeartbeats 4000000 in
theorem sg_LB_word62 {p : Program} {l : Launch} {e : Env} {R : Room} {s : State} {mi : MethodId} {args : Array Value} {below : List Frame} {meth : Method} {co : Code} {D : va_G} {cB cI cL : ClassId} {Q : State → Prop} {A : Nat → Prop} (C : zx_C p s mi args co b_LB_word 6 R_LB zB D zcl (zt cB cI cL) A) {ax t rr sp ua pa n r i k v : Nat} {x9 y9 : Int64} {f : Nat → Int32} (e71 : ((x9 <<< ((8 : Int32).toInt64 &&& 63)) ||| ((nI v).toInt64)) = y9) (e73 : (nI k) + (1 : Int32) = (nI (k + 1))) (k27 : zx_At p l e R s mi args below meth co Q D zcl A 6 [(0, .ref ax), (1, .int (nI i)), (2, .long y9), (4, .int (nI (k + 1)))] [(ax, .inr (4, [.ref t, .int (nI n), .ref rr, .ref sp, .int (nI r), .ref ua, .ref pa])), (rr, .inl (cB, 16384, .inl f))] 0 0 27 []) : zx_At p l e R s mi args below meth co Q D zcl A 6 [(0, .ref ax), (1, .int (nI i)), (2, .long x9), (4, .int (nI k))] [(ax, .inr (4, [.ref t, .int (nI n), .ref rr, .ref sp, .int (nI r), .ref ua, .ref pa])), (rr, .inl (cB, 16384, .inl f))] 0 0 62 [.int (nI v)] := by
  refine zx_istore (pc := 62) C d_LB_word_62 (by decide) (lv' := [(5, .int (nI v)), (0, .ref ax), (1, .int (nI i)), (2, .long x9), (4, .int (nI k))]) rfl ?_
  refine zx_lload_n (pc := 64) C d_LB_word_64 rfl 3 rfl ?_
  refine zx_bipush (pc := 65) C d_LB_word_65 (v := (8 : Int32)) (by decide) ?_
  refine zx_lshl (pc := 67) C d_LB_word_67 rfl ?_
  refine zx_iload (pc := 68) C d_LB_word_68 0 rfl ?_
  refine zx_i2l (pc := 70) C d_LB_word_70 rfl ?_
  refine zx_lor (pc := 71) C d_LB_word_71 ?_
  refine zx_setl y9 (e71) ?_
  refine zx_lstore_n (pc := 72) C d_LB_word_72 rfl (by decide) (lv' := [(2, .long y9), (5, .int (nI v)), (0, .ref ax), (1, .int (nI i)), (4, .int (nI k))]) rfl ?_
  refine zx_iinc (pc := 73) C d_LB_word_73 4 rfl (v := (nI (k + 1))) (e73) (by decide) (lv' := [(4, .int (nI (k + 1))), (2, .long y9), (5, .int (nI v)), (0, .ref ax), (1, .int (nI i))]) rfl ?_
  refine zx_goto (pc := 76) C 27 d_LB_word_76 (by decide) ?_
  refine zx_lv (lv' := [(0, .ref ax), (1, .int (nI i)), (2, .long y9), (4, .int (nI (k + 1)))]) [3, 4, 1, 0] rfl ?_
  exact k27

theorem k_LB_word (l : Launch) (D : va_G) (cB cI cL : ClassId) (hl : l.stackTraces = false) (ax t rr sp ua pa n r : Nat) (i9 : Int32) (f : Nat → Int32) (hr8 : r ≤ 16384) : zx_K l zB D zcl (zt cB cI cL) y_LB_word b_LB_word 6 (some .long) [] 0 0 (zr 8 1 6) [.ref ax, .int i9] [(ax, .inr (4, [.ref t, .int (nI n), .ref rr, .ref sp, .int (nI r), .ref ua, .ref pa])), (rr, .inl (cB, 16384, .inl f))] (fun o w => ((i9 < 0 ∨ nI r ≤ i9) ∧ ∃ x0 : Nat, o = .threw x0 ∧ w = [(ax, .inr (4, [.ref t, .int (nI n), .ref rr, .ref sp, .int (nI r), .ref ua, .ref pa])), (rr, .inl (cB, 16384, .inl f)), (x0, .inr (8, []))]) ∨ (∃ i1 : Nat, (i9 = nI i1 ∧ i1 < r) ∧ o = .returned (some (.long (zwd (zwg f r i1) 8))) ∧ w = [(ax, .inr (4, [.ref t, .int (nI n), .ref rr, .ref sp, .int (nI r), .ref ua, .ref pa])), (rr, .inl (cB, 16384, .inl f))])) := by
  refine zx_K.mk (Nat.le_of_ble_eq_true rfl) (fun p e s mm below meth c9 C hr hlk ht hnm => ?_)
  refine sg_LB_word0 C hr hlk hl ht (fun h x0 => Or.inl ⟨Or.inl h, x0, rfl, rfl⟩) (fun h1 h2 => ?_) (fun h1 h2 x0 => Or.inl ⟨Or.inr (zi_nlt.mp h2), x0, rfl, rfl⟩)
  obtain ⟨i, hi9, hi⟩ := zi_nn h1
  subst hi9
  have hir : i < r := (nI_ltI hi (by omega)).mp h2
  have loop : ∀ (d k : Nat), k + d = 8 → zx_At p l e (zr 8 1 6) s mm (([.ref ax, .int (nI i)] : List Value)).toArray below meth c9 (zx_Q below s D zcl [(ax, .inr (4, [.ref t, .int (nI n), .ref rr, .ref sp, .int (nI r), .ref ua, .ref pa])), (rr, .inl (cB, 16384, .inl f))] 0 0 (zr 8 1 6) (fun o w => (((nI i) < 0 ∨ nI r ≤ (nI i)) ∧ ∃ x0 : Nat, o = .threw x0 ∧ w = [(ax, .inr (4, [.ref t, .int (nI n), .ref rr, .ref sp, .int (nI r), .ref ua, .ref pa])), (rr, .inl (cB, 16384, .inl f)), (x0, .inr (8, []))]) ∨ (∃ i1 : Nat, ((nI i) = nI i1 ∧ i1 < r) ∧ o = .returned (some (.long (zwd (zwg f r i1) 8))) ∧ w = [(ax, .inr (4, [.ref t, .int (nI n), .ref rr, .ref sp, .int (nI r), .ref ua, .ref pa])), (rr, .inl (cB, 16384, .inl f))]))) D zcl (va_A [(ax, .inr (4, [.ref t, .int (nI n), .ref rr, .ref sp, .int (nI r), .ref ua, .ref pa])), (rr, .inl (cB, 16384, .inl f))] s.heap.size) 6 [(0, .ref ax), (1, .int (nI i)), (2, .long (zwd (zwg f r i) k)), (4, .int (nI k))] [(ax, .inr (4, [.ref t, .int (nI n), .ref rr, .ref sp, .int (nI r), .ref ua, .ref pa])), (rr, .inl (cB, 16384, .inl f))] 0 0 27 [] := by
    intro d
    induction d with
    | zero =>
      intro k hk
      have hk8 : k = 8 := by omega
      subst hk8
      have key : (8 : Int32) ≤ nI 8 := by decide
      exact sg_LB_word27 C hr hlk (fun _ => Or.inr ⟨i, ⟨rfl, hir⟩, rfl, rfl⟩) (fun z => absurd key z) (fun z => absurd key z) (fun z => absurd key z) (fun z => absurd key z) (fun z => absurd key z) (fun z => absurd key z)
    | succ d ih =>
      intro k hk
      have nk : ¬ (8 : Int32) ≤ nI k := fun z => absurd ((zp_ge (k := 8) rfl (by omega) (by decide)).mp z) (by omega)
      have kk : nI r ≤ nI (i + k) ↔ r ≤ i + k := nI_leI (by omega) (by omega)
      have nx : ∀ v, v = zwg f r i k → zx_At p l e (zr 8 1 6) s mm (([.ref ax, .int (nI i)] : List Value)).toArray below meth c9 (zx_Q below s D zcl [(ax, .inr (4, [.ref t, .int (nI n), .ref rr, .ref sp, .int (nI r), .ref ua, .ref pa])), (rr, .inl (cB, 16384, .inl f))] 0 0 (zr 8 1 6) (fun o w => (((nI i) < 0 ∨ nI r ≤ (nI i)) ∧ ∃ x0 : Nat, o = .threw x0 ∧ w = [(ax, .inr (4, [.ref t, .int (nI n), .ref rr, .ref sp, .int (nI r), .ref ua, .ref pa])), (rr, .inl (cB, 16384, .inl f)), (x0, .inr (8, []))]) ∨ (∃ i1 : Nat, ((nI i) = nI i1 ∧ i1 < r) ∧ o = .returned (some (.long (zwd (zwg f r i1) 8))) ∧ w = [(ax, .inr (4, [.ref t, .int (nI n), .ref rr, .ref sp, .int (nI r), .ref ua, .ref pa])), (rr, .inl (cB, 16384, .inl f))]))) D zcl (va_A [(ax, .inr (4, [.ref t, .int (nI n), .ref rr, .ref sp, .int (nI r), .ref ua, .ref pa])), (rr, .inl (cB, 16384, .inl f))] s.heap.size) 6 [(0, .ref ax), (1, .int (nI i)), (2, .long (zwd (zwg f r i) k)), (4, .int (nI k))] [(ax, .inr (4, [.ref t, .int (nI n), .ref rr, .ref sp, .int (nI r), .ref ua, .ref pa])), (rr, .inl (cB, 16384, .inl f))] 0 0 62 [.int (nI v)] := fun v hv => by
        subst hv
        exact sg_LB_word62 (y9 := zwd (zwg f r i) (k + 1)) C (zl_step _ (zwg_lt f r i k)) (nI_1 k) (ih (k + 1) (by omega))
      refine sg_LB_word27 C hr hlk (fun z => absurd z nk) (fun _ => nI_addI i k) (fun _ z => ?_) (fun _ z => nI_addI i k) (fun _ z => ⟨rfl, by have := mt kk.mpr z; omega⟩) (fun _ z => zu_and _) (fun _ z => ?_)
      · exact nx 0 (by rw [zwg, if_neg (by have := kk.mp z; omega)])
      · exact nx (zu (f (i + k))) (by rw [zwg, if_pos (by have := mt kk.mpr z; omega)])
  exact loop 8 0 rfl
