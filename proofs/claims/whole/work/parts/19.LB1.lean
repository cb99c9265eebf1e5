theorem zI_nat (x : Int32) : x = nI x.toBitVec.toNat := by
  unfold nI
  apply Int32.toBitVec_inj.mp
  apply BitVec.eq_of_toNat_eq
  simp
theorem zp_ushr (v s : Int32) (k : Nat) (hs : ((s.toUInt32 &&& Int32.toUInt32 31).toBitVec % 32).toNat = k) : (v.toUInt32 >>> (s.toUInt32 &&& Int32.toUInt32 31)).toInt32 = nI (v.toBitVec.toNat / 2 ^ k) := by
  rw [zI_nat (v.toUInt32 >>> (s.toUInt32 &&& Int32.toUInt32 31)).toInt32, pk_ushr v s k hs]
/-- byte k of four, the highest first -/
def zq (v : Int32) (k : Nat) : Int32 := zby (v.toBitVec.toNat / 2 ^ (24 - 8 * k))
def zad (f : Nat → Int32) (n : Nat) (v : Int32) : Nat → Int32 := upd (upd (upd (upd f n (zq v 0)) (n + 1) (zq v 1)) (n + 2) (zq v 2)) (n + 3) (zq v 3)
theorem zi_nle {a b : Int32} : ¬ a ≤ b ↔ b < a := Int32.not_le
theorem zi_nlt {a b : Int32} : ¬ a < b ↔ b ≤ a := Int32.not_lt
set_option maxRecDepth 100000 in
set_option maxHeartbeats 4000000 in
theorem sg_LB_checkM {p : Program} {l : Launch} {e : Env} {s : State} {mi : MethodId} {args : Array Value} {below : List Frame} {meth : Method} {co : Code} {D : va_G} {cB cI cL : ClassId} {w0 : va_W} {kr nr : Nat} {post : Outcome → va_W → Prop} (C : zx_C p s mi args co b_LB_checkM 1 R_LB zB D zcl (zt cB cI cL) (va_A w0 s.heap.size)) {m9 : Int32} (hr9 : meth.sig.returnType = none) (hlk9 : meth.locks = false) (hl9 : l.stackTraces = false) (ht9 : co.exceptionTable.toList.map (fun h => (h.startPc, h.endPc, h.handlerPc, h.catchType)) = []) (t11 : (m9 < (2 : Int32)) → ∀ x9 : Nat, post (.threw x9) [(x9, .inr (6, []))]) (r21 : (¬ m9 < (2 : Int32)) → (m9 ≤ (8 : Int32)) → post (.returned none) []) (t11_2 : (¬ m9 < (2 : Int32)) → (¬ m9 ≤ (8 : Int32)) → ∀ x9 : Nat, post (.threw x9) [(x9, .inr (6, []))]) : zx_At p l e (zr 8 1 6) s mi args below meth co (zx_Q below s D zcl w0 kr nr (zr 8 1 6) post) D zcl (va_A w0 s.heap.size) 1 [(0, .int m9)] [] 0 0 0 [] := by
  refine zx_iload_n (pc := 0) C d_LB_checkM_0 rfl 0 rfl ?_
  refine zx_iconst (pc := 1) C d_LB_checkM_1 (v := (2 : Int32)) (by decide) ?_
  refine zx_icmp_lt (pc := 2) C 11 d_LB_checkM_2 (by decide) (fun c2 => ?_) (fun c2 => ?_)
  · exact zx_throwS (pc := 11) (names := zex) (ci := 6) C hl9 (by decide +kernel) zex_fit zw_246 zw_11 zw_273 zh_LB_55 rfl hlk9 (zx_noTab ht9 _) d_LB_checkM_11 d_LB_checkM_14 d_LB_checkM_15 d_LB_checkM_17 d_LB_checkM_20 (Nat.le_of_ble_eq_true rfl) (Nat.le_of_ble_eq_true rfl) (Nat.le_of_ble_eq_true rfl) (Nat.le_of_ble_eq_true rfl) (t11 c2)
  · refine zx_iload_n (pc := 5) C d_LB_checkM_5 rfl 0 rfl ?_
    refine zx_bipush (pc := 6) C d_LB_checkM_6 (v := (8 : Int32)) (by decide) ?_
    refine zx_icmp_le (pc := 8) C 21 d_LB_checkM_8 (by decide) (fun c8 => ?_) (fun c8 => ?_)
    · exact zx_vret (pc := 21) C hr9 hlk9 (Nat.zero_le _) (Nat.zero_le _) d_LB_checkM_21 (r21 c2 c8)
    · exact zx_throwS (pc := 11) (names := zex) (ci := 6) C hl9 (by decide +kernel) zex_fit zw_246 zw_11 zw_273 zh_LB_55 rfl hlk9 (zx_noTab ht9 _) d_LB_checkM_11 d_LB_checkM_14 d_LB_checkM_15 d_LB_checkM_17 d_LB_checkM_20 (Nat.le_of_ble_eq_true rfl) (Nat.le_of_ble_eq_true rfl) (Nat.le_of_ble_eq_true rfl) (Nat.le_of_ble_eq_true rfl) (t11_2 c2 c8)

/-- checkM: refuses what is not 2 .. 8 -/
theorem k_LB_checkM (l : Launch) (D : va_G) (cB cI cL : ClassId) (hl : l.stackTraces = false) (m9 : Int32) : zx_K l zB D zcl (zt cB cI cL) y_LB_checkM b_LB_checkM 1 (none) [] 0 0 (zr 8 1 6) [.int m9] [] (fun o w => ((m9 < 2 ∨ 8 < m9) ∧ ∃ x0 : Nat, o = .threw x0 ∧ w = [(x0, .inr (6, []))]) ∨ (¬ (m9 < 2 ∨ 8 < m9) ∧ o = .returned none ∧ w = [])) := by
  refine zx_K.mk (Nat.le_of_ble_eq_true rfl) (fun p e s mm below meth c9 C hr hlk ht hnm => ?_)
  refine sg_LB_checkM C hr hlk hl ht (fun h x0 => Or.inl ⟨Or.inl h, x0, rfl, rfl⟩) (fun h1 h2 => Or.inr ⟨?_, rfl, rfl⟩) (fun h1 h2 x0 => Or.inl ⟨Or.inr (zi_nle.mp h2), x0, rfl, rfl⟩)
  intro h
  rcases h with h | h
  · exact h1 h
  · exact zi_nle.mpr h h2
set_option maxRecDepth 100000 in
set_option maxHeartbeats 4000000 in
theorem sg_LB_end {p : Program} {l : Launch} {e : Env} {s : State} {mi : MethodId} {args : Array Value} {below : List Frame} {meth : Method} {co : Code} {D : va_G} {cB cI cL : ClassId} {w0 : va_W} {kr nr : Nat} {post : Outcome → va_W → Prop} (C : zx_C p s mi args co b_LB_end 2 R_LB zB D zcl (zt cB cI cL) (va_A w0 s.heap.size)) {ax t rr sp ua pa n r : Nat} {i9 : Int32} (hr9 : meth.sig.returnType = some .int) (hlk9 : meth.locks = false) (hl9 : l.stackTraces = false) (ht9 : co.exceptionTable.toList.map (fun h => (h.startPc, h.endPc, h.handlerPc, h.catchType)) = []) (t12 : (i9 < 0) → ∀ x9 : Nat, post (.threw x9) [(ax, .inr (4, [.ref t, .int (nI n), .ref rr, .ref sp, .int (nI r), .ref ua, .ref pa])), (x9, .inr (6, []))]) (r31 : (¬ i9 < 0) → (i9 ≤ (nI n)) → post (.returned (some (.int i9))) [(ax, .inr (4, [.ref t, .int i9, .ref rr, .ref sp, .int (nI r), .ref ua, .ref pa]))]) (t12_2 : (¬ i9 < 0) → (¬ i9 ≤ (nI n)) → ∀ x9 : Nat, post (.threw x9) [(ax, .inr (4, [.ref t, .int (nI n), .ref rr, .ref sp, .int (nI r), .ref ua, .ref pa])), (x9, .inr (6, []))]) : zx_At p l e (zr 8 1 6) s mi args below meth co (zx_Q below s D zcl w0 kr nr (zr 8 1 6) post) D zcl (va_A w0 s.heap.size) 2 [(0, .ref ax), (1, .int i9)] [(ax, .inr (4, [.ref t, .int (nI n), .ref rr, .ref sp, .int (nI r), .ref ua, .ref pa]))] 0 0 0 [] := by
  refine zx_iload_n (pc := 0) C d_LB_end_0 rfl 1 rfl ?_
  refine zx_if_lt (pc := 1) C 12 d_LB_end_1 (by decide) (fun c1 => ?_) (fun c1 => ?_)
  · exact zx_throwS (pc := 12) (names := zex) (ci := 6) C hl9 (by decide +kernel) zex_fit zw_246 zw_11 zw_255 zh_LB_55 rfl hlk9 (zx_noTab ht9 _) d_LB_end_12 d_LB_end_15 d_LB_end_16 d_LB_end_18 d_LB_end_21 (Nat.le_of_ble_eq_true rfl) (Nat.le_of_ble_eq_true rfl) (Nat.le_of_ble_eq_true rfl) (Nat.le_of_ble_eq_true rfl) (t12 c1)
  · refine zx_iload_n (pc := 4) C d_LB_end_4 rfl 1 rfl ?_
    refine zx_aload_n (pc := 5) C d_LB_end_5 rfl 0 rfl ?_
    refine zx_get (pc := 6) (ci := 4) (Cn := R_LB) (T := T_LB) (N := 7) (v := .int (nI n)) C zu_LB 0 rfl rfl 1 (by decide) zw_130 rfl rfl d_LB_end_6 ?_
    refine zx_icmp_le (pc := 9) C 22 d_LB_end_9 (by decide) (fun c9 => ?_) (fun c9 => ?_)
    · refine zx_aload_n (pc := 22) C d_LB_end_22 rfl 0 rfl ?_
      refine zx_iload_n (pc := 23) C d_LB_end_23 rfl 1 rfl ?_
      refine zx_put (pc := 24) (ci := 4) (Cn := R_LB) (T := T_LB) (N := 7) (v := .int i9) (ty := .int) (ws' := [(ax, .inr (4, [.ref t, .int i9, .ref rr, .ref sp, .int (nI r), .ref ua, .ref pa]))]) C zu_LB ty_LB tyk_LB nm_LB 0 rfl rfl 1 (by decide) zw_130 rfl rfl (by decide +kernel) rfl rfl (Nat.le_of_ble_eq_true rfl) rfl d_LB_end_24 ?_
      refine zx_aload_n (pc := 27) C d_LB_end_27 rfl 0 rfl ?_
      refine zx_get (pc := 28) (ci := 4) (Cn := R_LB) (T := T_LB) (N := 7) (v := .int i9) C zu_LB 0 rfl rfl 1 (by decide) zw_130 rfl rfl d_LB_end_28 ?_
      exact zx_iret (pc := 31) C hr9 hlk9 (Nat.zero_le _) (Nat.zero_le _) d_LB_end_31 (r31 c1 c9)
    · exact zx_throwS (pc := 12) (names := zex) (ci := 6) C hl9 (by decide +kernel) zex_fit zw_246 zw_11 zw_255 zh_LB_55 rfl hlk9 (zx_noTab ht9 _) d_LB_end_12 d_LB_end_15 d_LB_end_16 d_LB_end_18 d_LB_end_21 (Nat.le_of_ble_eq_true rfl) (Nat.le_of_ble_eq_true rfl) (Nat.le_of_ble_eq_true rfl) (Nat.le_of_ble_eq_true rfl) (t12_2 c1 c9)

theorem k_LB_end (l : Launch) (D : va_G) (cB cI cL : ClassId) (hl : l.stackTraces = false) (ax t rr sp ua pa n r : Nat) (i9 : Int32) : zx_K l zB D zcl (zt cB cI cL) y_LB_end b_LB_end 2 (some .int) [] 0 0 (zr 8 1 6) [.ref ax, .int i9] [(ax, .inr (4, [.ref t, .int (nI n), .ref rr, .ref sp, .int (nI r), .ref ua, .ref pa]))] (fun o w => ((i9 < 0 ∨ nI n < i9) ∧ ∃ x0 : Nat, o = .threw x0 ∧ w = [(ax, .inr (4, [.ref t, .int (nI n), .ref rr, .ref sp, .int (nI r), .ref ua, .ref pa])), (x0, .inr (6, []))]) ∨ (¬ (i9 < 0 ∨ nI n < i9) ∧ o = .returned (some (.int i9)) ∧ w = [(ax, .inr (4, [.ref t, .int i9, .ref rr, .ref sp, .int (nI r), .ref ua, .ref pa]))])) := by
  refine zx_K.mk (Nat.le_of_ble_eq_true rfl) (fun p e s mm below meth c9 C hr hlk ht hnm => ?_)
  refine sg_LB_end C hr hlk hl ht (fun h x0 => Or.inl ⟨Or.inl h, x0, rfl, rfl⟩) (fun h1 h2 => Or.inr ⟨?_, rfl, rfl⟩) (fun h1 h2 x0 => Or.inl ⟨Or.inr (zi_nle.mp h2), x0, rfl, rfl⟩)
  intro h
  rcases h with h | h
  · exact h1 h
  · exact zi_nle.mpr h h2
set_option maxRecDepth 100000 in
set_option maxHeartbeats 4000000 in
theorem sg_LB_count {p : Program} {l : Launch} {e : Env} {s : State} {mi : MethodId} {args : Array Value} {below : List Frame} {meth : Method} {co : Code} {D : va_G} {cB cI cL : ClassId} {w0 : va_W} {kr nr : Nat} {post : Outcome → va_W → Prop} (C : zx_C p s mi args co b_LB_count 2 R_LB zB D zcl (zt cB cI cL) (va_A w0 s.heap.size)) {ax t rr sp ua pa n r : Nat} {i9 : Int32} (hr9 : meth.sig.returnType = some .int) (hlk9 : meth.locks = false) (hl9 : l.stackTraces = false) (ht9 : co.exceptionTable.toList.map (fun h => (h.startPc, h.endPc, h.handlerPc, h.catchType)) = []) (t9 : (i9 < 0) → ∀ x9 : Nat, post (.threw x9) [(ax, .inr (4, [.ref t, .int (nI n), .ref rr, .ref sp, .int (nI r), .ref ua, .ref pa])), (x9, .inr (6, []))]) (r34 : (¬ i9 < 0) → (i9 ≤ (1 : Int32)) → (¬ i9 = 0) → post (.returned (some (.int (nI r)))) [(ax, .inr (4, [.ref t, .int (nI n), .ref rr, .ref sp, .int (nI r), .ref ua, .ref pa]))]) (r34_2 : (¬ i9 < 0) → (i9 ≤ (1 : Int32)) → (i9 = 0) → post (.returned (some (.int (nI n)))) [(ax, .inr (4, [.ref t, .int (nI n), .ref rr, .ref sp, .int (nI r), .ref ua, .ref pa]))]) (t9_2 : (¬ i9 < 0) → (¬ i9 ≤ (1 : Int32)) → ∀ x9 : Nat, post (.threw x9) [(ax, .inr (4, [.ref t, .int (nI n), .ref rr, .ref sp, .int (nI r), .ref ua, .ref pa])), (x9, .inr (6, []))]) : zx_At p l e (zr 8 1 6) s mi args below meth co (zx_Q below s D zcl w0 kr nr (zr 8 1 6) post) D zcl (va_A w0 s.heap.size) 2 [(0, .ref ax), (1, .int i9)] [(ax, .inr (4, [.ref t, .int (nI n), .ref rr, .ref sp, .int (nI r), .ref ua, .ref pa]))] 0 0 0 [] := by
  refine zx_iload_n (pc := 0) C d_LB_count_0 rfl 1 rfl ?_
  refine zx_if_lt (pc := 1) C 9 d_LB_count_1 (by decide) (fun c1 => ?_) (fun c1 => ?_)
  · exact zx_throwS (pc := 9) (names := zex) (ci := 6) C hl9 (by decide +kernel) zex_fit zw_246 zw_11 zw_694 zh_LB_55 rfl hlk9 (zx_noTab ht9 _) d_LB_count_9 d_LB_count_12 d_LB_count_13 d_LB_count_15 d_LB_count_18 (Nat.le_of_ble_eq_true rfl) (Nat.le_of_ble_eq_true rfl) (Nat.le_of_ble_eq_true rfl) (Nat.le_of_ble_eq_true rfl) (t9 c1)
  · refine zx_iload_n (pc := 4) C d_LB_count_4 rfl 1 rfl ?_
    refine zx_iconst (pc := 5) C d_LB_count_5 (v := (1 : Int32)) (by decide) ?_
    refine zx_icmp_le (pc := 6) C 19 d_LB_count_6 (by decide) (fun c6 => ?_) (fun c6 => ?_)
    · refine zx_iload_n (pc := 19) C d_LB_count_19 rfl 1 rfl ?_
      refine zx_if_ne (pc := 20) C 30 d_LB_count_20 (by decide) (fun c20 => ?_) (fun c20 => ?_)
      · refine zx_aload_n (pc := 30) C d_LB_count_30 rfl 0 rfl ?_
        refine zx_get (pc := 31) (ci := 4) (Cn := R_LB) (T := T_LB) (N := 7) (v := .int (nI r)) C zu_LB 0 rfl rfl 4 (by decide) zw_133 rfl rfl d_LB_count_31 ?_
        exact zx_iret (pc := 34) C hr9 hlk9 (Nat.zero_le _) (Nat.zero_le _) d_LB_count_34 (r34 c1 c6 c20)
      · refine zx_aload_n (pc := 23) C d_LB_count_23 rfl 0 rfl ?_
        refine zx_get (pc := 24) (ci := 4) (Cn := R_LB) (T := T_LB) (N := 7) (v := .int (nI n)) C zu_LB 0 rfl rfl 1 (by decide) zw_130 rfl rfl d_LB_count_24 ?_
        refine zx_goto (pc := 27) C 34 d_LB_count_27 (by decide) ?_
        exact zx_iret (pc := 34) C hr9 hlk9 (Nat.zero_le _) (Nat.zero_le _) d_LB_count_34 (r34_2 c1 c6 c20)
    · exact zx_throwS (pc := 9) (names := zex) (ci := 6) C hl9 (by decide +kernel) zex_fit zw_246 zw_11 zw_694 zh_LB_55 rfl hlk9 (zx_noTab ht9 _) d_LB_count_9 d_LB_count_12 d_LB_count_13 d_LB_count_15 d_LB_count_18 (Nat.le_of_ble_eq_true rfl) (Nat.le_of_ble_eq_true rfl) (Nat.le_of_ble_eq_true rfl) (Nat.le_of_ble_eq_true rfl) (t9_2 c1 c6)

theorem k_LB_count (l : Launch) (D : va_G) (cB cI cL : ClassId) (hl : l.stackTraces = false) (ax t rr sp ua pa n r : Nat) (i9 : Int32) : zx_K l zB D zcl (zt cB cI cL) y_LB_count b_LB_count 2 (some .int) [] 0 0 (zr 8 1 6) [.ref ax, .int i9] [(ax, .inr (4, [.ref t, .int (nI n), .ref rr, .ref sp, .int (nI r), .ref ua, .ref pa]))] (fun o w => ((i9 < 0 ∨ 1 < i9) ∧ ∃ x0 : Nat, o = .threw x0 ∧ w = [(ax, .inr (4, [.ref t, .int (nI n), .ref rr, .ref sp, .int (nI r), .ref ua, .ref pa])), (x0, .inr (6, []))]) ∨ (¬ (i9 < 0 ∨ 1 < i9) ∧ o = .returned (some (.int (if i9 = 0 then nI n else nI r))) ∧ w = [(ax, .inr (4, [.ref t, .int (nI n), .ref rr, .ref sp, .int (nI r), .ref ua, .ref pa]))])) := by
  refine zx_K.mk (Nat.le_of_ble_eq_true rfl) (fun p e s mm below meth c9 C hr hlk ht hnm => ?_)
  refine sg_LB_count C hr hlk hl ht (fun h x0 => Or.inl ⟨Or.inl h, x0, rfl, rfl⟩) (fun h1 h2 h3 => Or.inr ⟨?_, by rw [if_neg h3], rfl⟩) (fun h1 h2 h3 => Or.inr ⟨?_, by rw [if_pos h3], rfl⟩) (fun h1 h2 x0 => Or.inl ⟨Or.inr (zi_nle.mp h2), x0, rfl, rfl⟩)
  · intro h
    rcases h with h | h
    · exact h1 h
    · exact zi_nle.mpr h h2
  · intro h
    rcases h with h | h
    · exact h1 h
    · exact zi_nle.mpr h h2
set_option maxRecDepth 100000 in
set_option maxHeartbeats 4000000 in
theorem sg_LB_take {p : Program} {l : Launch} {e : Env} {R : Room} {s : State} {mi : MethodId} {args : Array Value} {below : List Frame} {meth : Method} {co : Code} {D : va_G} {cB cI cL : ClassId} {w0 : va_W} {kr nr : Nat} {post : Outcome → va_W → Prop} (C : zx_C p s mi args co b_LB_takeSpareAsResult 3 R_LB zB D zcl (zt cB cI cL) (va_A w0 s.heap.size)) {ax t rr sp ua pa n r : Nat} {i9 : Int32} (hr9 : meth.sig.returnType = none) (hlk9 : meth.locks = false) (r23 : post (.returned none) [(ax, .inr (4, [.ref t, .int (nI n), .ref sp, .ref rr, .int i9, .ref ua, .ref pa]))]) : zx_At p l e R s mi args below meth co (zx_Q below s D zcl w0 kr nr R post) D zcl (va_A w0 s.heap.size) 3 [(0, .ref ax), (1, .int i9)] [(ax, .inr (4, [.ref t, .int (nI n), .ref rr, .ref sp, .int (nI r), .ref ua, .ref pa]))] 0 0 0 [] := by
  refine zx_aload_n (pc := 0) C d_LB_takeSpareAsResult_0 rfl 0 rfl ?_
  refine zx_get (pc := 1) (ci := 4) (Cn := R_LB) (T := T_LB) (N := 7) (v := .ref rr) C zu_LB 0 rfl rfl 2 (by decide) zw_131 rfl rfl d_LB_takeSpareAsResult_1 ?_
  refine zx_astore_n (pc := 4) C d_LB_takeSpareAsResult_4 rfl (by decide) (lv' := [(2, .ref rr), (0, .ref ax), (1, .int i9)]) rfl ?_
  refine zx_aload_n (pc := 5) C d_LB_takeSpareAsResult_5 rfl 1 rfl ?_
  refine zx_aload_n (pc := 6) C d_LB_takeSpareAsResult_6 rfl 1 rfl ?_
  refine zx_get (pc := 7) (ci := 4) (Cn := R_LB) (T := T_LB) (N := 7) (v := .ref sp) C zu_LB 0 rfl rfl 3 (by decide) zw_132 rfl rfl d_LB_takeSpareAsResult_7 ?_
  refine zx_put (pc := 10) (ci := 4) (Cn := R_LB) (T := T_LB) (N := 7) (v := .ref sp) (ty := .array .byte) (ws' := [(ax, .inr (4, [.ref t, .int (nI n), .ref sp, .ref sp, .int (nI r), .ref ua, .ref pa]))]) C zu_LB ty_LB tyk_LB nm_LB 0 rfl rfl 2 (by decide) zw_131 rfl rfl (by decide +kernel) rfl rfl (Nat.le_of_ble_eq_true rfl) rfl d_LB_takeSpareAsResult_10 ?_
  refine zx_aload_n (pc := 13) C d_LB_takeSpareAsResult_13 rfl 1 rfl ?_
  refine zx_aload_n (pc := 14) C d_LB_takeSpareAsResult_14 rfl 0 rfl ?_
  refine zx_put (pc := 15) (ci := 4) (Cn := R_LB) (T := T_LB) (N := 7) (v := .ref rr) (ty := .array .byte) (ws' := [(ax, .inr (4, [.ref t, .int (nI n), .ref sp, .ref rr, .int (nI r), .ref ua, .ref pa]))]) C zu_LB ty_LB tyk_LB nm_LB 0 rfl rfl 3 (by decide) zw_132 rfl rfl (by decide +kernel) rfl rfl (Nat.le_of_ble_eq_true rfl) rfl d_LB_takeSpareAsResult_15 ?_
  refine zx_aload_n (pc := 18) C d_LB_takeSpareAsResult_18 rfl 1 rfl ?_
  refine zx_iload_n (pc := 19) C d_LB_takeSpareAsResult_19 rfl 2 rfl ?_
  refine zx_put (pc := 20) (ci := 4) (Cn := R_LB) (T := T_LB) (N := 7) (v := .int i9) (ty := .int) (ws' := [(ax, .inr (4, [.ref t, .int (nI n), .ref sp, .ref rr, .int i9, .ref ua, .ref pa]))]) C zu_LB ty_LB tyk_LB nm_LB 0 rfl rfl 4 (by decide) zw_133 rfl rfl (by decide +kernel) rfl rfl (Nat.le_of_ble_eq_true rfl) rfl d_LB_takeSpareAsResult_20 ?_
  exact zx_vret (pc := 23) C hr9 hlk9 (Nat.zero_le _) (Nat.zero_le _) d_LB_takeSpareAsResult_23 (r23)

theorem k_LB_takeSpareAsResult (l : Launch) (D : va_G) (cB cI cL : ClassId) (R : Room) (ax t rr sp ua pa n r : Nat) (i9 : Int32) : zx_K l zB D zcl (zt cB cI cL) y_LB_takeSpareAsResult b_LB_takeSpareAsResult 3 (none) [] 0 0 R [.ref ax, .int i9] [(ax, .inr (4, [.ref t, .int (nI n), .ref rr, .ref sp, .int (nI r), .ref ua, .ref pa]))] (fun o w => o = .returned none ∧ w = [(ax, .inr (4, [.ref t, .int (nI n), .ref sp, .ref rr, .int i9, .ref ua, .ref pa]))]) := by
  refine zx_K.mk (Nat.le_of_ble_eq_true rfl) (fun p e s mm below meth c9 C hr hlk ht hnm => ?_)
  exact sg_LB_take C hr hlk ⟨rfl, rfl⟩
set_option maxRecDepth 100000 in
set_option maxHeartbeats 4000000 in
theorem sg_LB_add {p : Program} {l : Launch} {e : Env} {R : Room} {s : State} {mi : MethodId} {args : Array Value} {below : List Frame} {meth : Method} {co : Code} {D : va_G} {cB cI cL : ClassId} {Q : State → Prop} {A : Nat → Prop} (C : zx_C p s mi args co b_LB_addToTape 3 R_LB zB D zcl (zt cB cI cL) A) {ax t rr sp ua pa n r : Nat} {v9 : Int32} {f : Nat → Int32} (k3 : zx_At p l e R s mi args below meth co Q D zcl A 3 [(0, .ref ax), (1, .int v9), (2, .int (24 : Int32))] [(ax, .inr (4, [.ref t, .int (nI n), .ref rr, .ref sp, .int (nI r), .ref ua, .ref pa])), (t, .inl (cB, 16384, .inl f))] 0 0 3 []) : zx_At p l e R s mi args below meth co Q D zcl A 3 [(0, .ref ax), (1, .int v9)] [(ax, .inr (4, [.ref t, .int (nI n), .ref rr, .ref sp, .int (nI r), .ref ua, .ref pa])), (t, .inl (cB, 16384, .inl f))] 0 0 0 [] := by
  refine zx_bipush (pc := 0) C d_LB_addToTape_0 (v := (24 : Int32)) (by decide) ?_
  refine zx_istore_n (pc := 2) C d_LB_addToTape_2 rfl (by decide) (lv' := [(2, .int (24 : Int32)), (0, .ref ax), (1, .int v9)]) rfl ?_
  refine zx_lv (lv' := [(0, .ref ax), (1, .int v9), (2, .int (24 : Int32))]) [1, 2, 0] rfl ?_
  exact k3

set_option maxRecDepth 100000 in
set_option maxHeartbeats 4000000 in
theorem sg_LB_add3 {p : Program} {l : Launch} {e : Env} {R : Room} {s : State} {mi : MethodId} {args : Array Value} {below : List Frame} {meth : Method} {co : Code} {D : va_G} {cB cI cL : ClassId} {w0 : va_W} {kr nr : Nat} {post : Outcome → va_W → Prop} (C : zx_C p s mi args co b_LB_addToTape 3 R_LB zB D zcl (zt cB cI cL) (va_A w0 s.heap.size)) {ax t rr sp ua pa n r q8 : Nat} {v9 s9 s8 : Int32} {f : Nat → Int32} (hr9 : meth.sig.returnType = none) (hlk9 : meth.locks = false) (r46 : (s9 < 0) → post (.returned none) [(ax, .inr (4, [.ref t, .int (nI n), .ref rr, .ref sp, .int (nI r), .ref ua, .ref pa])), (t, .inl (cB, 16384, .inl f))]) (r46_2 : (¬ s9 < 0) → ((16384 : Int32) ≤ (nI n)) → post (.returned none) [(ax, .inr (4, [.ref t, .int (nI n), .ref rr, .ref sp, .int (nI r), .ref ua, .ref pa])), (t, .inl (cB, 16384, .inl f))]) (e27 : (¬ s9 < 0) → (¬ (16384 : Int32) ≤ (nI n)) → ((v9.toUInt32 >>> (s9.toUInt32 &&& Int32.toUInt32 31)).toInt32) = (nI q8)) (e28 : (¬ s9 < 0) → (¬ (16384 : Int32) ≤ (nI n)) → ((nI q8).toInt8.toInt32) = (zby q8)) (b29 : (¬ s9 < 0) → (¬ (16384 : Int32) ≤ (nI n)) → (nI n) = nI n ∧ n < 16384) (e36 : (¬ s9 < 0) → (¬ (16384 : Int32) ≤ (nI n)) → ((nI n) + (1 : Int32)) = (nI (n + 1))) (e40 : (¬ s9 < 0) → (¬ (16384 : Int32) ≤ (nI n)) → s9 + (-8 : Int32) = s8) (k3 : (¬ s9 < 0) → (¬ (16384 : Int32) ≤ (nI n)) → zx_At p l e R s mi args below meth co (zx_Q below s D zcl w0 kr nr R post) D zcl (va_A w0 s.heap.size) 3 [(0, .ref ax), (1, .int v9), (2, .int s8)] [(ax, .inr (4, [.ref t, .int (nI (n + 1)), .ref rr, .ref sp, .int (nI r), .ref ua, .ref pa])), (t, .inl (cB, 16384, .inl (upd f n (vp_nar .byte (zby q8)))))] 0 0 3 []) : zx_At p l e R s mi args below meth co (zx_Q below s D zcl w0 kr nr R post) D zcl (va_A w0 s.heap.size) 3 [(0, .ref ax), (1, .int v9), (2, .int s9)] [(ax, .inr (4, [.ref t, .int (nI n), .ref rr, .ref sp, .int (nI r), .ref ua, .ref pa])), (t, .inl (cB, 16384, .inl f))] 0 0 3 [] := by
  refine zx_iload_n (pc := 3) C d_LB_addToTape_3 rfl 2 rfl ?_
  refine zx_if_lt (pc := 4) C 46 d_LB_addToTape_4 (by decide) (fun c4 => ?_) (fun c4 => ?_)
  · exact zx_vret (pc := 46) C hr9 hlk9 (Nat.zero_le _) (Nat.zero_le _) d_LB_addToTape_46 (r46 c4)
  · refine zx_aload_n (pc := 7) C d_LB_addToTape_7 rfl 0 rfl ?_
    refine zx_get (pc := 8) (ci := 4) (Cn := R_LB) (T := T_LB) (N := 7) (v := .int (nI n)) C zu_LB 0 rfl rfl 1 (by decide) zw_130 rfl rfl d_LB_addToTape_8 ?_
    refine zx_sipush (pc := 11) C d_LB_addToTape_11 (v := (16384 : Int32)) (by decide) ?_
    refine zx_icmp_ge (pc := 14) C 46 d_LB_addToTape_14 (by decide) (fun c14 => ?_) (fun c14 => ?_)
    · exact zx_vret (pc := 46) C hr9 hlk9 (Nat.zero_le _) (Nat.zero_le _) d_LB_addToTape_46 (r46_2 c4 c14)
    · refine zx_aload_n (pc := 17) C d_LB_addToTape_17 rfl 0 rfl ?_
      refine zx_get (pc := 18) (ci := 4) (Cn := R_LB) (T := T_LB) (N := 7) (v := .ref t) C zu_LB 0 rfl rfl 0 (by decide) zw_129 rfl rfl d_LB_addToTape_18 ?_
      refine zx_aload_n (pc := 21) C d_LB_addToTape_21 rfl 0 rfl ?_
      refine zx_get (pc := 22) (ci := 4) (Cn := R_LB) (T := T_LB) (N := 7) (v := .int (nI n)) C zu_LB 0 rfl rfl 1 (by decide) zw_130 rfl rfl d_LB_addToTape_22 ?_
      refine zx_iload_n (pc := 25) C d_LB_addToTape_25 rfl 1 rfl ?_
      refine zx_iload_n (pc := 26) C d_LB_addToTape_26 rfl 2 rfl ?_
      refine zx_iushr (pc := 27) C d_LB_addToTape_27 rfl ?_
      refine zx_seti (nI q8) (e27 c4 c14) ?_
      refine zx_i2b (pc := 28) C d_LB_addToTape_28 rfl ?_
      refine zx_seti (zby q8) (e28 c4 c14) ?_
      refine zx_bast (pc := 29) (ws' := [(ax, .inr (4, [.ref t, .int (nI n), .ref rr, .ref sp, .int (nI r), .ref ua, .ref pa])), (t, .inl (cB, 16384, .inl (upd f n (vp_nar .byte (zby q8)))))]) C 1 0 rfl rfl n (b29 c4 c14).1 (b29 c4 c14).2 (by decide) rfl d_LB_addToTape_29 ?_
      refine zx_aload_n (pc := 30) C d_LB_addToTape_30 rfl 0 rfl ?_
      refine zx_dup (pc := 31) C d_LB_addToTape_31 rfl ?_
      refine zx_get (pc := 32) (ci := 4) (Cn := R_LB) (T := T_LB) (N := 7) (v := .int (nI n)) C zu_LB 0 rfl rfl 1 (by decide) zw_130 rfl rfl d_LB_addToTape_32 ?_
      refine zx_iconst (pc := 35) C d_LB_addToTape_35 (v := (1 : Int32)) (by decide) ?_
      refine zx_iadd (pc := 36) C d_LB_addToTape_36 ?_
      refine zx_seti (nI (n + 1)) (e36 c4 c14) ?_
      refine zx_put (pc := 37) (ci := 4) (Cn := R_LB) (T := T_LB) (N := 7) (v := .int (nI (n + 1))) (ty := .int) (ws' := [(ax, .inr (4, [.ref t, .int (nI (n + 1)), .ref rr, .ref sp, .int (nI r), .ref ua, .ref pa])), (t, .inl (cB, 16384, .inl (upd f n (vp_nar .byte (zby q8)))))]) C zu_LB ty_LB tyk_LB nm_LB 0 rfl rfl 1 (by decide) zw_130 rfl rfl (by decide +kernel) rfl rfl (Nat.le_of_ble_eq_true rfl) rfl d_LB_addToTape_37 ?_
      refine zx_iinc (pc := 40) C d_LB_addToTape_40 2 rfl (v := s8) (e40 c4 c14) (by decide) (lv' := [(2, .int s8), (0, .ref ax), (1, .int v9)]) rfl ?_
      refine zx_goto (pc := 43) C 3 d_LB_addToTape_43 (by decide) ?_
      refine zx_lv (lv' := [(0, .ref ax), (1, .int v9), (2, .int s8)]) [1, 2, 0] rfl ?_
      exact k3 c4 c14

theorem k_LB_addToTape (l : Launch) (D : va_G) (cB cI cL : ClassId) (R : Room) (ax t rr sp ua pa n r : Nat) (v9 : Int32) (f : Nat → Int32) (hn : n + 4 ≤ 16384) : zx_K l zB D zcl (zt cB cI cL) y_LB_addToTape b_LB_addToTape 3 (none) [] 0 0 R [.ref ax, .int v9] [(ax, .inr (4, [.ref t, .int (nI n), .ref rr, .ref sp, .int (nI r), .ref ua, .ref pa])), (t, .inl (cB, 16384, .inl f))] (fun o w => o = .returned none ∧ w = [(ax, .inr (4, [.ref t, .int (nI (n + 4)), .ref rr, .ref sp, .int (nI r), .ref ua, .ref pa])), (t, .inl (cB, 16384, .inl (zad f n v9)))]) := by
  refine zx_K.mk (Nat.le_of_ble_eq_true rfl) (fun p e s mm below meth c9 C hr hlk ht hnm => ?_)
  have n0 : ∀ k, k < 4 → ¬ (16384 : Int32) ≤ nI (n + k) := fun k hk z => absurd ((zp_ge (k := 16384) (K := 16384) rfl (by omega) (by decide)).mp z) (by omega)
  refine sg_LB_add C ?_
  refine sg_LB_add3 (n := n) (q8 := v9.toBitVec.toNat / 2 ^ 24) (s9 := 24) (s8 := 16) C hr hlk (fun h => absurd h (by decide)) (fun _ h => absurd h (n0 0 (by decide))) (fun _ _ => zp_ushr v9 24 24 (by decide)) (fun _ _ => rfl) (fun _ _ => ⟨rfl, by omega⟩) (fun _ _ => nI_1 _) (fun _ _ => by decide) (fun _ _ => ?_)
  rw [zby_nar]
  refine sg_LB_add3 (n := (n + 1)) (q8 := v9.toBitVec.toNat / 2 ^ 16) (s9 := 16) (s8 := 8) C hr hlk (fun h => absurd h (by decide)) (fun _ h => absurd h (n0 1 (by decide))) (fun _ _ => zp_ushr v9 16 16 (by decide)) (fun _ _ => rfl) (fun _ _ => ⟨rfl, by omega⟩) (fun _ _ => nI_1 _) (fun _ _ => by decide) (fun _ _ => ?_)
  rw [zby_nar]
  refine sg_LB_add3 (n := (n + 1 + 1)) (q8 := v9.toBitVec.toNat / 2 ^ 8) (s9 := 8) (s8 := 0) C hr hlk (fun h => absurd h (by decide)) (fun _ h => absurd h (n0 2 (by decide))) (fun _ _ => zp_ushr v9 8 8 (by decide)) (fun _ _ => rfl) (fun _ _ => ⟨rfl, by omega⟩) (fun _ _ => nI_1 _) (fun _ _ => by decide) (fun _ _ => ?_)
  rw [zby_nar]
  refine sg_LB_add3 (n := (n + 1 + 1 + 1)) (q8 := v9.toBitVec.toNat / 2 ^ 0) (s9 := 0) (s8 := -8) C hr hlk (fun h => absurd h (by decide)) (fun _ h => absurd h (n0 3 (by decide))) (fun _ _ => zp_ushr v9 0 0 (by decide)) (fun _ _ => rfl) (fun _ _ => ⟨rfl, by omega⟩) (fun _ _ => nI_1 _) (fun _ _ => by decide) (fun _ _ => ?_)
  rw [zby_nar]
  have hneg : (-8 : Int32) < 0 := by decide
  exact sg_LB_add3 (n := n + 1 + 1 + 1 + 1) (q8 := 0) (s9 := -8) (s8 := 0) C hr hlk (fun _ => ⟨rfl, rfl⟩) (fun h => absurd hneg h) (fun h => absurd hneg h) (fun h => absurd hneg h) (fun h => absurd hneg h) (fun h => absurd hneg h) (fun h => absurd hneg h) (fun h => absurd hneg h)
set_option maxRecDepth 100000 in
set_option maxHeartbeats 4000000 in
theorem sg_LB_feed {p : Program} {l : Launch} {e : Env} {s : State} {mi : MethodId} {args : Array Value} {below : List Frame} {meth : Method} {co : Code} {D : va_G} {cB cI cL : ClassId} {w0 : va_W} {kr nr : Nat} {post : Outcome → va_W → Prop} (C : zx_C p s mi args co b_LB_feed 6 R_LB zB D zcl (zt cB cI cL) (va_A w0 s.heap.size)) {ax t rr sp ua pa n r : Nat} {a1 a2 a3 a4 a5 : Int32} {f : Nat → Int32} (hfd : nI n ≤ (16364 : Int32) → n ≤ 16364) (hr9 : meth.sig.returnType = some .int) (hlk9 : meth.locks = false) (hl9 : l.stackTraces = false) (ht9 : co.exceptionTable.toList.map (fun h => (h.startPc, h.endPc, h.handlerPc, h.catchType)) = []) (r51 : ((nI n) ≤ (16364 : Int32)) → post (.returned (some (.int (nI (n + 20))))) [(ax, .inr (4, [.ref t, .int (nI (n + 20)), .ref rr, .ref sp, .int (nI r), .ref ua, .ref pa])), (t, .inl (cB, 16384, .inl (zad (zad (zad (zad (zad f n a1) (n + 4) a2) (n + 8) a3) (n + 12) a4) (n + 16) a5)))]) (t10 : (¬ (nI n) ≤ (16364 : Int32)) → ∀ x9 : Nat, post (.threw x9) [(ax, .inr (4, [.ref t, .int (nI n), .ref rr, .ref sp, .int (nI r), .ref ua, .ref pa])), (t, .inl (cB, 16384, .inl f)), (x9, .inr (8, []))]) : zx_At p l e (zr 8 1 6) s mi args below meth co (zx_Q below s D zcl w0 kr nr (zr 8 1 6) post) D zcl (va_A w0 s.heap.size) 6 [(0, .ref ax), (1, .int a1), (2, .int a2), (3, .int a3), (4, .int a4), (5, .int a5)] [(ax, .inr (4, [.ref t, .int (nI n), .ref rr, .ref sp, .int (nI r), .ref ua, .ref pa])), (t, .inl (cB, 16384, .inl f))] 0 0 0 [] := by
  refine zx_aload_n (pc := 0) C d_LB_feed_0 rfl 0 rfl ?_
  refine zx_get (pc := 1) (ci := 4) (Cn := R_LB) (T := T_LB) (N := 7) (v := .int (nI n)) C zu_LB 0 rfl rfl 1 (by decide) zw_130 rfl rfl d_LB_feed_1 ?_
  refine zx_sipush (pc := 4) C d_LB_feed_4 (v := (16364 : Int32)) (by decide) ?_
  refine zx_icmp_le (pc := 7) C 20 d_LB_feed_7 (by decide) (fun c7 => ?_) (fun c7 => ?_)
  · refine zx_aload_n (pc := 20) C d_LB_feed_20 rfl 0 rfl ?_
    refine zx_iload_n (pc := 21) C d_LB_feed_21 rfl 1 rfl ?_
    refine zx_callV (pc := 22) (ix := 47) (As := [.int a1]) (b := ax) (q0 := 0) (wr := []) (st := []) C (zx_cw.of (C.w zw_237)) (by decide +kernel) ⟨by decide +kernel, by decide +kernel⟩ zw_236 zs_LB_addToTape zw_234 rfl rfl rfl rfl rfl (k_LB_addToTape l D cB cI cL (zr 0 0 0) ax t rr sp ua pa n r a1 f (by have := hfd c7; omega)) rfl [0, 1] [] rfl rfl (by decide) (by decide) (by decide) (Nat.le_of_ble_eq_true rfl) (Nat.le_of_ble_eq_true rfl) (Nat.le_of_ble_eq_true rfl) (Nat.le_of_ble_eq_true rfl) d_LB_feed_22 (fun o w1 hp => ?_)
    obtain ⟨rfl, rfl⟩ := hp
    refine zx_rv (k2 := 0) (n2 := 0) rfl rfl ?_
    refine zx_ws (ws' := [(ax, .inr (4, [.ref t, .int (nI (n + 4)), .ref rr, .ref sp, .int (nI r), .ref ua, .ref pa])), (t, .inl (cB, 16384, .inl (zad f n a1)))]) [0, 1] (by decide) rfl ?_
    refine zx_aload_n (pc := 25) C d_LB_feed_25 rfl 0 rfl ?_
    refine zx_iload_n (pc := 26) C d_LB_feed_26 rfl 2 rfl ?_
    refine zx_callV (pc := 27) (ix := 47) (As := [.int a2]) (b := ax) (q0 := 0) (wr := []) (st := []) C (zx_cw.of (C.w zw_237)) (by decide +kernel) ⟨by decide +kernel, by decide +kernel⟩ zw_236 zs_LB_addToTape zw_234 rfl rfl rfl rfl rfl (k_LB_addToTape l D cB cI cL (zr 0 0 0) ax t rr sp ua pa (n + 4) r a2 (zad f n a1) (by have := hfd c7; omega)) rfl [0, 1] [] rfl rfl (by decide) (by decide) (by decide) (Nat.le_of_ble_eq_true rfl) (Nat.le_of_ble_eq_true rfl) (Nat.le_of_ble_eq_true rfl) (Nat.le_of_ble_eq_true rfl) d_LB_feed_27 (fun o w1 hp => ?_)
    obtain ⟨rfl, rfl⟩ := hp
    refine zx_rv (k2 := 0) (n2 := 0) rfl rfl ?_
    refine zx_ws (ws' := [(ax, .inr (4, [.ref t, .int (nI (n + 8)), .ref rr, .ref sp, .int (nI r), .ref ua, .ref pa])), (t, .inl (cB, 16384, .inl (zad (zad f n a1) (n + 4) a2)))]) [0, 1] (by decide) rfl ?_
    refine zx_aload_n (pc := 30) C d_LB_feed_30 rfl 0 rfl ?_
    refine zx_iload_n (pc := 31) C d_LB_feed_31 rfl 3 rfl ?_
    refine zx_callV (pc := 32) (ix := 47) (As := [.int a3]) (b := ax) (q0 := 0) (wr := []) (st := []) C (zx_cw.of (C.w zw_237)) (by decide +kernel) ⟨by decide +kernel, by decide +kernel⟩ zw_236 zs_LB_addToTape zw_234 rfl rfl rfl rfl rfl (k_LB_addToTape l D cB cI cL (zr 0 0 0) ax t rr sp ua pa (n + 8) r a3 (zad (zad f n a1) (n + 4) a2) (by have := hfd c7; omega)) rfl [0, 1] [] rfl rfl (by decide) (by decide) (by decide) (Nat.le_of_ble_eq_true rfl) (Nat.le_of_ble_eq_true rfl) (Nat.le_of_ble_eq_true rfl) (Nat.le_of_ble_eq_true rfl) d_LB_feed_32 (fun o w1 hp => ?_)
    obtain ⟨rfl, rfl⟩ := hp
    refine zx_rv (k2 := 0) (n2 := 0) rfl rfl ?_
    refine zx_ws (ws' := [(ax, .inr (4, [.ref t, .int (nI (n + 12)), .ref rr, .ref sp, .int (nI r), .ref ua, .ref pa])), (t, .inl (cB, 16384, .inl (zad (zad (zad f n a1) (n + 4) a2) (n + 8) a3)))]) [0, 1] (by decide) rfl ?_
    refine zx_aload_n (pc := 35) C d_LB_feed_35 rfl 0 rfl ?_
    refine zx_iload (pc := 36) C d_LB_feed_36 4 rfl ?_
    refine zx_callV (pc := 38) (ix := 47) (As := [.int a4]) (b := ax) (q0 := 0) (wr := []) (st := []) C (zx_cw.of (C.w zw_237)) (by decide +kernel) ⟨by decide +kernel, by decide +kernel⟩ zw_236 zs_LB_addToTape zw_234 rfl rfl rfl rfl rfl (k_LB_addToTape l D cB cI cL (zr 0 0 0) ax t rr sp ua pa (n + 12) r a4 (zad (zad (zad f n a1) (n + 4) a2) (n + 8) a3) (by have := hfd c7; omega)) rfl [0, 1] [] rfl rfl (by decide) (by decide) (by decide) (Nat.le_of_ble_eq_true rfl) (Nat.le_of_ble_eq_true rfl) (Nat.le_of_ble_eq_true rfl) (Nat.le_of_ble_eq_true rfl) d_LB_feed_38 (fun o w1 hp => ?_)
    obtain ⟨rfl, rfl⟩ := hp
    refine zx_rv (k2 := 0) (n2 := 0) rfl rfl ?_
    refine zx_ws (ws' := [(ax, .inr (4, [.ref t, .int (nI (n + 16)), .ref rr, .ref sp, .int (nI r), .ref ua, .ref pa])), (t, .inl (cB, 16384, .inl (zad (zad (zad (zad f n a1) (n + 4) a2) (n + 8) a3) (n + 12) a4)))]) [0, 1] (by decide) rfl ?_
    refine zx_aload_n (pc := 41) C d_LB_feed_41 rfl 0 rfl ?_
    refine zx_iload (pc := 42) C d_LB_feed_42 5 rfl ?_
    refine zx_callV (pc := 44) (ix := 47) (As := [.int a5]) (b := ax) (q0 := 0) (wr := []) (st := []) C (zx_cw.of (C.w zw_237)) (by decide +kernel) ⟨by decide +kernel, by decide +kernel⟩ zw_236 zs_LB_addToTape zw_234 rfl rfl rfl rfl rfl (k_LB_addToTape l D cB cI cL (zr 0 0 0) ax t rr sp ua pa (n + 16) r a5 (zad (zad (zad (zad f n a1) (n + 4) a2) (n + 8) a3) (n + 12) a4) (by have := hfd c7; omega)) rfl [0, 1] [] rfl rfl (by decide) (by decide) (by decide) (Nat.le_of_ble_eq_true rfl) (Nat.le_of_ble_eq_true rfl) (Nat.le_of_ble_eq_true rfl) (Nat.le_of_ble_eq_true rfl) d_LB_feed_44 (fun o w1 hp => ?_)
    obtain ⟨rfl, rfl⟩ := hp
    refine zx_rv (k2 := 0) (n2 := 0) rfl rfl ?_
    refine zx_ws (ws' := [(ax, .inr (4, [.ref t, .int (nI (n + 20)), .ref rr, .ref sp, .int (nI r), .ref ua, .ref pa])), (t, .inl (cB, 16384, .inl (zad (zad (zad (zad (zad f n a1) (n + 4) a2) (n + 8) a3) (n + 12) a4) (n + 16) a5)))]) [0, 1] (by decide) rfl ?_
    refine zx_aload_n (pc := 47) C d_LB_feed_47 rfl 0 rfl ?_
    refine zx_get (pc := 48) (ci := 4) (Cn := R_LB) (T := T_LB) (N := 7) (v := .int (nI (n + 20))) C zu_LB 0 rfl rfl 1 (by decide) zw_130 rfl rfl d_LB_feed_48 ?_
    exact zx_iret (pc := 51) C hr9 hlk9 (Nat.zero_le _) (Nat.zero_le _) d_LB_feed_51 (r51 c7)
  · exact zx_throwS (pc := 10) (names := zex) (ci := 8) C hl9 (by decide +kernel) zex_fit zw_166 zw_10 zw_208 zh_LB_44 rfl hlk9 (zx_noTab ht9 _) d_LB_feed_10 d_LB_feed_13 d_LB_feed_14 d_LB_feed_16 d_LB_feed_19 (Nat.le_of_ble_eq_true rfl) (Nat.le_of_ble_eq_true rfl) (Nat.le_of_ble_eq_true rfl) (Nat.le_of_ble_eq_true rfl) (t10 c7)

theorem k_LB_feed (l : Launch) (D : va_G) (cB cI cL : ClassId) (hl : l.stackTraces = false) (ax t rr sp ua pa n r : Nat) (a1 a2 a3 a4 a5 : Int32) (f : Nat → Int32) (hn : n ≤ 16384) : zx_K l zB D zcl (zt cB cI cL) y_LB_feed b_LB_feed 6 (some .int) [] 0 0 (zr 8 1 6) [.ref ax, .int a1, .int a2, .int a3, .int a4, .int a5] [(ax, .inr (4, [.ref t, .int (nI n), .ref rr, .ref sp, .int (nI r), .ref ua, .ref pa])), (t, .inl (cB, 16384, .inl f))] (fun o w => ((16364 < n) ∧ ∃ x0 : Nat, o = .threw x0 ∧ w = [(ax, .inr (4, [.ref t, .int (nI n), .ref rr, .ref sp, .int (nI r), .ref ua, .ref pa])), (t, .inl (cB, 16384, .inl f)), (x0, .inr (8, []))]) ∨ (¬ (16364 < n) ∧ o = .returned (some (.int (nI (n + 20)))) ∧ w = [(ax, .inr (4, [.ref t, .int (nI (n + 20)), .ref rr, .ref sp, .int (nI r), .ref ua, .ref pa])), (t, .inl (cB, 16384, .inl (zad (zad (zad (zad (zad f n a1) (n + 4) a2) (n + 8) a3) (n + 12) a4) (n + 16) a5)))])) := by
  refine zx_K.mk (Nat.le_of_ble_eq_true rfl) (fun p e s mm below meth c9 C hr hlk ht hnm => ?_)
  have key : nI n ≤ (16364 : Int32) ↔ n ≤ 16364 := zp_le (k := 16364) rfl (by omega) (by decide)
  exact sg_LB_feed C key.mp hr hlk hl ht (fun h => Or.inr ⟨by have := key.mp h; omega, rfl, rfl⟩) (fun h x0 => Or.inl ⟨by have := mt key.mpr h; omega, x0, rfl, rfl⟩)
set_option maxRecDepth 100000 in
set_option maxHeartbeats 4000000 in
theorem sg_LB_isx {p : Program} {l : Launch} {e : Env} {R : Room} {s : State} {mi : MethodId} {args : Array Value} {below : List Frame} {meth : Method} {co : Code} {D : va_G} {cB cI cL : ClassId} {Q : State → Prop} {A : Nat → Prop} (C : zx_C p s mi args co b_LB_tapeIsIndices 3 R_LB zB D zcl (zt cB cI cL) A) {ax t rr sp ua pa n r m : Nat} {f : Nat → Int32} (k2 : zx_At p l e R s mi args below meth co Q D zcl A 3 [(0, .ref ax), (1, .int (nI m)), (2, .int (0 : Int32))] [(ax, .inr (4, [.ref t, .int (nI n), .ref rr, .ref sp, .int (nI r), .ref ua, .ref pa])), (t, .inl (cB, 16384, .inl f))] 0 0 2 []) : zx_At p l e R s mi args below meth co Q D zcl A 3 [(0, .ref ax), (1, .int (nI m))] [(ax, .inr (4, [.ref t, .int (nI n), .ref rr, .ref sp, .int (nI r), .ref ua, .ref pa])), (t, .inl (cB, 16384, .inl f))] 0 0 0 [] := by
  refine zx_iconst (pc := 0) C d_LB_tapeIsIndices_0 (v := (0 : Int32)) (by decide) ?_
  refine zx_istore_n (pc := 1) C d_LB_tapeIsIndices_1 rfl (by decide) (lv' := [(2, .int (0 : Int32)), (0, .ref ax), (1, .int (nI m))]) rfl ?_
  refine zx_lv (lv' := [(0, .ref ax), (1, .int (nI m)), (2, .int (0 : Int32))]) [1, 2, 0] rfl ?_
  exact k2

set_option maxRecDepth 100000 in
set_option maxHeartbeats 4000000 in
theorem sg_LB_isx2 {p : Program} {l : Launch} {e : Env} {R : Room} {s : State} {mi : MethodId} {args : Array Value} {below : List Frame} {meth : Method} {co : Code} {D : va_G} {cB cI cL : ClassId} {w0 : va_W} {kr nr : Nat} {post : Outcome → va_W → Prop} (C : zx_C p s mi args co b_LB_tapeIsIndices 3 R_LB zB D zcl (zt cB cI cL) (va_A w0 s.heap.size)) {ax t rr sp ua pa n r m i : Nat} {f : Nat → Int32} (hr9 : meth.sig.returnType = some .boolean) (hlk9 : meth.locks = false) (r46 : ((nI n) ≤ (nI i)) → ((nI n) ≤ 0) → post (.returned (some (.int (0 : Int32)))) [(ax, .inr (4, [.ref t, .int (nI n), .ref rr, .ref sp, .int (nI r), .ref ua, .ref pa])), (t, .inl (cB, 16384, .inl f))]) (r46_2 : ((nI n) ≤ (nI i)) → (¬ (nI n) ≤ 0) → post (.returned (some (.int (1 : Int32)))) [(ax, .inr (4, [.ref t, .int (nI n), .ref rr, .ref sp, .int (nI r), .ref ua, .ref pa])), (t, .inl (cB, 16384, .inl f))]) (b15 : (¬ (nI n) ≤ (nI i)) → (nI i) = nI i ∧ i < 16384) (e19 : (¬ (nI n) ≤ (nI i)) → ((f i) &&& (255 : Int32)) = (nI (zu (f i)))) (e22 : (¬ (nI n) ≤ (nI i)) → ((1 : Int32) <<< ((nI m) &&& 31)) = (nI (2 ^ m))) (e28 : (¬ (nI n) ≤ (nI i)) → ((nI (zu (f i))) < (nI (2 ^ m))) → (nI i) + (1 : Int32) = (nI (i + 1))) (k2 : (¬ (nI n) ≤ (nI i)) → ((nI (zu (f i))) < (nI (2 ^ m))) → zx_At p l e R s mi args below meth co (zx_Q below s D zcl w0 kr nr R post) D zcl (va_A w0 s.heap.size) 3 [(0, .ref ax), (1, .int (nI m)), (2, .int (nI (i + 1)))] [(ax, .inr (4, [.ref t, .int (nI n), .ref rr, .ref sp, .int (nI r), .ref ua, .ref pa])), (t, .inl (cB, 16384, .inl f))] 0 0 2 []) (r27 : (¬ (nI n) ≤ (nI i)) → (¬ (nI (zu (f i))) < (nI (2 ^ m))) → post (.returned (some (.int (0 : Int32)))) [(ax, .inr (4, [.ref t, .int (nI n), .ref rr, .ref sp, .int (nI r), .ref ua, .ref pa])), (t, .inl (cB, 16384, .inl f))]) : zx_At p l e R s mi args below meth co (zx_Q below s D zcl w0 kr nr R post) D zcl (va_A w0 s.heap.size) 3 [(0, .ref ax), (1, .int (nI m)), (2, .int (nI i))] [(ax, .inr (4, [.ref t, .int (nI n), .ref rr, .ref sp, .int (nI r), .ref ua, .ref pa])), (t, .inl (cB, 16384, .inl f))] 0 0 2 [] := by
  refine zx_iload_n (pc := 2) C d_LB_tapeIsIndices_2 rfl 2 rfl ?_
  refine zx_aload_n (pc := 3) C d_LB_tapeIsIndices_3 rfl 0 rfl ?_
  refine zx_get (pc := 4) (ci := 4) (Cn := R_LB) (T := T_LB) (N := 7) (v := .int (nI n)) C zu_LB 0 rfl rfl 1 (by decide) zw_130 rfl rfl d_LB_tapeIsIndices_4 ?_
  refine zx_icmp_ge (pc := 7) C 34 d_LB_tapeIsIndices_7 (by decide) (fun c7 => ?_) (fun c7 => ?_)
  · refine zx_aload_n (pc := 34) C d_LB_tapeIsIndices_34 rfl 0 rfl ?_
    refine zx_get (pc := 35) (ci := 4) (Cn := R_LB) (T := T_LB) (N := 7) (v := .int (nI n)) C zu_LB 0 rfl rfl 1 (by decide) zw_130 rfl rfl d_LB_tapeIsIndices_35 ?_
    refine zx_if_le (pc := 38) C 45 d_LB_tapeIsIndices_38 (by decide) (fun c38 => ?_) (fun c38 => ?_)
    · refine zx_iconst (pc := 45) C d_LB_tapeIsIndices_45 (v := (0 : Int32)) (by decide) ?_
      exact zx_zret (pc := 46) C hr9 (Or.inl rfl) hlk9 (Nat.zero_le _) (Nat.zero_le _) d_LB_tapeIsIndices_46 (r46 c7 c38)
    · refine zx_iconst (pc := 41) C d_LB_tapeIsIndices_41 (v := (1 : Int32)) (by decide) ?_
      refine zx_goto (pc := 42) C 46 d_LB_tapeIsIndices_42 (by decide) ?_
      exact zx_zret (pc := 46) C hr9 (Or.inr rfl) hlk9 (Nat.zero_le _) (Nat.zero_le _) d_LB_tapeIsIndices_46 (r46_2 c7 c38)
  · refine zx_aload_n (pc := 10) C d_LB_tapeIsIndices_10 rfl 0 rfl ?_
    refine zx_get (pc := 11) (ci := 4) (Cn := R_LB) (T := T_LB) (N := 7) (v := .ref t) C zu_LB 0 rfl rfl 0 (by decide) zw_129 rfl rfl d_LB_tapeIsIndices_11 ?_
    refine zx_iload_n (pc := 14) C d_LB_tapeIsIndices_14 rfl 2 rfl ?_
    refine zx_bald (pc := 15) C 1 0 rfl rfl i (b15 c7).1 (b15 c7).2 (by decide) d_LB_tapeIsIndices_15 ?_
    refine zx_sipush (pc := 16) C d_LB_tapeIsIndices_16 (v := (255 : Int32)) (by decide) ?_
    refine zx_iand (pc := 19) C d_LB_tapeIsIndices_19 ?_
    refine zx_seti (nI (zu (f i))) (e19 c7) ?_
    refine zx_iconst (pc := 20) C d_LB_tapeIsIndices_20 (v := (1 : Int32)) (by decide) ?_
    refine zx_iload_n (pc := 21) C d_LB_tapeIsIndices_21 rfl 1 rfl ?_
    refine zx_ishl (pc := 22) C d_LB_tapeIsIndices_22 ?_
    refine zx_seti (nI (2 ^ m)) (e22 c7) ?_
    refine zx_icmp_lt (pc := 23) C 28 d_LB_tapeIsIndices_23 (by decide) (fun c23 => ?_) (fun c23 => ?_)
    · refine zx_iinc (pc := 28) C d_LB_tapeIsIndices_28 2 rfl (v := (nI (i + 1))) (e28 c7 c23) (by decide) (lv' := [(2, .int (nI (i + 1))), (0, .ref ax), (1, .int (nI m))]) rfl ?_
      refine zx_goto (pc := 31) C 2 d_LB_tapeIsIndices_31 (by decide) ?_
      refine zx_lv (lv' := [(0, .ref ax), (1, .int (nI m)), (2, .int (nI (i + 1)))]) [1, 2, 0] rfl ?_
      exact k2 c7 c23
    · refine zx_iconst (pc := 26) C d_LB_tapeIsIndices_26 (v := (0 : Int32)) (by decide) ?_
      exact zx_zret (pc := 27) C hr9 (Or.inl rfl) hlk9 (Nat.zero_le _) (Nat.zero_le _) d_LB_tapeIsIndices_27 (r27 c7 c23)

theorem k_LB_tapeIsIndices (l : Launch) (D : va_G) (cB cI cL : ClassId) (R : Room) (ax t rr sp ua pa n r m : Nat) (f : Nat → Int32) (hn : n ≤ 16384) (hm : m ≤ 8) : zx_K l zB D zcl (zt cB cI cL) y_LB_tapeIsIndices b_LB_tapeIsIndices 3 (some .boolean) [] 0 0 R [.ref ax, .int (nI m)] [(ax, .inr (4, [.ref t, .int (nI n), .ref rr, .ref sp, .int (nI r), .ref ua, .ref pa])), (t, .inl (cB, 16384, .inl f))] (fun o w => o = .returned (some (.int (zb (decide (0 < n ∧ ∀ j, j < n → zu (f j) < 2 ^ m))))) ∧ w = [(ax, .inr (4, [.ref t, .int (nI n), .ref rr, .ref sp, .int (nI r), .ref ua, .ref pa])), (t, .inl (cB, 16384, .inl f))]) := by
  refine zx_K.mk (Nat.le_of_ble_eq_true rfl) (fun p e s mm below meth c9 C hr hlk ht hnm => ?_)
  have loop : ∀ (d i : Nat), i + d = n → (∀ j, j < i → zu (f j) < 2 ^ m) → zx_At p l e R s mm (([.ref ax, .int (nI m)] : List Value)).toArray below meth c9 (zx_Q below s D zcl [(ax, .inr (4, [.ref t, .int (nI n), .ref rr, .ref sp, .int (nI r), .ref ua, .ref pa])), (t, .inl (cB, 16384, .inl f))] 0 0 R (fun o w => o = .returned (some (.int (zb (decide (0 < n ∧ ∀ j, j < n → zu (f j) < 2 ^ m))))) ∧ w = [(ax, .inr (4, [.ref t, .int (nI n), .ref rr, .ref sp, .int (nI r), .ref ua, .ref pa])), (t, .inl (cB, 16384, .inl f))])) D zcl (va_A [(ax, .inr (4, [.ref t, .int (nI n), .ref rr, .ref sp, .int (nI r), .ref ua, .ref pa])), (t, .inl (cB, 16384, .inl f))] s.heap.size) 3 [(0, .ref ax), (1, .int (nI m)), (2, .int (nI i))] [(ax, .inr (4, [.ref t, .int (nI n), .ref rr, .ref sp, .int (nI r), .ref ua, .ref pa])), (t, .inl (cB, 16384, .inl f))] 0 0 2 [] := by
    intro d
    have hp8 := zp_pow8 hm
    induction d with
    | zero =>
      intro i hi hj
      have key : nI n ≤ nI i := by rw [show i = n by omega]; exact Int32.le_refl _
      have k0 : nI n ≤ (0 : Int32) ↔ n ≤ 0 := zp_le (k := 0) rfl (by omega) (by decide)
      exact sg_LB_isx2 C hr hlk (fun _ z => ⟨by rw [decide_eq_false (fun q => by have := k0.mp z; omega)]; rfl, rfl⟩) (fun _ z => ⟨by rw [decide_eq_true ⟨by have := mt k0.mpr z; omega, fun j hj' => hj j (by omega)⟩]; rfl, rfl⟩) (fun z => absurd key z) (fun z => absurd key z) (fun z => absurd key z) (fun z => absurd key z) (fun z => absurd key z) (fun z => absurd key z)
    | succ d ih =>
      intro i hi hj
      have nk : ¬ nI n ≤ nI i := fun z => absurd ((nI_leI (by omega) (by omega)).mp z) (by omega)
      have hu := zu_lt (f i)
      have k1 : nI (zu (f i)) < nI (2 ^ m) ↔ zu (f i) < 2 ^ m := nI_ltI (by omega) (by omega)
      refine sg_LB_isx2 C hr hlk (fun z => absurd z nk) (fun z => absurd z nk) (fun _ => ⟨rfl, by omega⟩) (fun _ => zu_and _) (fun _ => zp_shl1 m (by omega)) (fun _ _ => nI_1 i) (fun _ z => ih (i + 1) (by omega) (fun j hj' => ?_)) (fun _ z => ⟨?_, rfl⟩)
      · by_cases q : j = i
        · rw [q]; exact k1.mp z
        · exact hj j (by omega)
      · rw [decide_eq_false (fun q => z (k1.mpr (q.2 i (by omega))))]; rfl
  exact sg_LB_isx C (loop n 0 (by omega) (fun j hj => absurd hj (Nat.not_lt_zero _)))
