set_option maxRecDepth 100000 in
set_option maxHeartbeats 4000000 in
theorem sg_NU_beginAnew {p : Program} {l : Launch} {e : Env} {R : Room} {s : State} {m : MethodId} {args : Array Value} {below : List Frame} {meth : Method} {c : Code} {D : va_G} {cB cI cL : ClassId} {w0 : va_W} {kr nr : Nat} {post : Outcome → va_W → Prop} (C : zx_C p s m args c b_NU_beginAnew 1 R_NU zB D zcl (zt cB cI cL) (va_A w0 s.heap.size)) {a : Nat} {m9 b9 x9 f9 : Int32} (hr9 : meth.sig.returnType = none) (hlk9 : meth.locks = false) (r27 : post (.returned none) [(a, .inr (0, [.int m9, .int (m9 + (1 : Int32)), .int (((1 : Int32) <<< (m9 &&& 31)) + (2 : Int32)), .int (1 : Int32)]))]) : zx_At p l e R s m args below meth c (zx_Q below s D zcl w0 kr nr R post) D zcl (va_A w0 s.heap.size) 1 [(0, .ref a)] [(a, .inr (0, [.int m9, .int b9, .int x9, .int f9]))] 0 0 0 [] := by
  refine zx_aload_n (pc := 0) C d_NU_beginAnew_0 rfl 0 rfl ?_
  refine zx_aload_n (pc := 1) C d_NU_beginAnew_1 rfl 0 rfl ?_
  refine zx_get (pc := 2) (ci := 0) (Cn := R_NU) (T := T_NU) (N := 4) (v := .int m9) C zu_NU 0 rfl rfl 0 (by decide) zw_45 rfl rfl d_NU_beginAnew_2 ?_
  refine zx_iconst (pc := 5) C d_NU_beginAnew_5 (v := (1 : Int32)) (by decide) ?_
  refine zx_iadd (pc := 6) C d_NU_beginAnew_6 ?_
  refine zx_put (pc := 7) (ci := 0) (Cn := R_NU) (T := T_NU) (N := 4) (v := .int (m9 + (1 : Int32))) (ty := .int) (ws' := [(a, .inr (0, [.int m9, .int (m9 + (1 : Int32)), .int x9, .int f9]))]) C zu_NU ty_NU tyk_NU nm_NU 0 rfl rfl 1 (by decide) zw_48 rfl rfl (by decide +kernel) rfl rfl (Nat.le_of_ble_eq_true rfl) rfl d_NU_beginAnew_7 ?_
  refine zx_aload_n (pc := 10) C d_NU_beginAnew_10 rfl 0 rfl ?_
  refine zx_iconst (pc := 11) C d_NU_beginAnew_11 (v := (1 : Int32)) (by decide) ?_
  refine zx_aload_n (pc := 12) C d_NU_beginAnew_12 rfl 0 rfl ?_
  refine zx_get (pc := 13) (ci := 0) (Cn := R_NU) (T := T_NU) (N := 4) (v := .int m9) C zu_NU 0 rfl rfl 0 (by decide) zw_45 rfl rfl d_NU_beginAnew_13 ?_
  refine zx_ishl (pc := 16) C d_NU_beginAnew_16 ?_
  refine zx_iconst (pc := 17) C d_NU_beginAnew_17 (v := (2 : Int32)) (by decide) ?_
  refine zx_iadd (pc := 18) C d_NU_beginAnew_18 ?_
  refine zx_put (pc := 19) (ci := 0) (Cn := R_NU) (T := T_NU) (N := 4) (v := .int (((1 : Int32) <<< (m9 &&& 31)) + (2 : Int32))) (ty := .int) (ws' := [(a, .inr (0, [.int m9, .int (m9 + (1 : Int32)), .int (((1 : Int32) <<< (m9 &&& 31)) + (2 : Int32)), .int f9]))]) C zu_NU ty_NU tyk_NU nm_NU 0 rfl rfl 2 (by decide) zw_49 rfl rfl (by decide +kernel) rfl rfl (Nat.le_of_ble_eq_true rfl) rfl d_NU_beginAnew_19 ?_
  refine zx_aload_n (pc := 22) C d_NU_beginAnew_22 rfl 0 rfl ?_
  refine zx_iconst (pc := 23) C d_NU_beginAnew_23 (v := (1 : Int32)) (by decide) ?_
  refine zx_put (pc := 24) (ci := 0) (Cn := R_NU) (T := T_NU) (N := 4) (v := .int (1 : Int32)) (ty := .boolean) (ws' := [(a, .inr (0, [.int m9, .int (m9 + (1 : Int32)), .int (((1 : Int32) <<< (m9 &&& 31)) + (2 : Int32)), .int (1 : Int32)]))]) C zu_NU ty_NU tyk_NU nm_NU 0 rfl rfl 3 (by decide) zw_52 rfl rfl (by decide +kernel) (by decide) (by decide) (Nat.le_of_ble_eq_true rfl) rfl d_NU_beginAnew_24 ?_
  exact zx_vret (pc := 27) C hr9 hlk9 (Nat.zero_le _) (Nat.zero_le _) d_NU_beginAnew_27 (r27)

/-- beginAnew: bits, next row and first as behind a beginning -/
theorem k_NU_beginAnew (l : Launch) (D : va_G) (cB cI cL : ClassId) (R : Room) (a m : Nat) (b9 x9 f9 : Int32) (hm : m < 16) : zx_K l zB D zcl (zt cB cI cL) y_NU_beginAnew b_NU_beginAnew 1 (none) [] 0 0 R [.ref a] [(a, .inr (0, [.int (nI m), .int b9, .int x9, .int f9]))] (fun o w => o = .returned none ∧ w = [(a, .inr (0, [.int (nI m), .int (nI (m + 1)), .int (nI (2 ^ m + 2)), .int 1]))]) := by
  refine zx_K.mk (Nat.le_of_ble_eq_true rfl) (fun p e s mm below meth c C hr hlk ht hn => ?_)
  exact sg_NU_beginAnew C hr hlk ⟨rfl, by rw [zp_shl1 m hm, nI_1, show (2 : Int32) = nI 2 from rfl, nI_add]⟩
set_option maxRecDepth 100000 in
set_option maxHeartbeats 4000000 in
theorem sg_NU_init {p : Program} {l : Launch} {e : Env} {s : State} {m : MethodId} {args : Array Value} {below : List Frame} {meth : Method} {c : Code} {D : va_G} {cB cI cL : ClassId} {w0 : va_W} {kr nr : Nat} {post : Outcome → va_W → Prop} (C : zx_C p s m args c b_NU_init 1 R_NU zB D zcl (zt cB cI cL) (va_A w0 s.heap.size)) {a : Nat} {m9 b9 x9 f9 : Int32} (hr9 : meth.sig.returnType = none) (hlk9 : meth.locks = false) (hnm9 : meth.name = "<init>") (r4 : post (.returned none) [(a, .inr (0, [.int m9, .int b9, .int x9, .int f9]))]) : zx_At p l e (zr 1 0 0) s m args below meth c (zx_Q below s D zcl w0 kr nr (zr 1 0 0) post) D zcl (va_A w0 s.heap.size) 1 [(0, .ref a)] [(a, .inr (0, [.int m9, .int b9, .int x9, .int f9]))] 0 0 0 [] := by
  refine zx_aload_n (pc := 0) C d_NU_init_0 rfl 0 rfl ?_
  refine zx_objInit (pc := 1) C zw_44 zw_31 zw_32 d_NU_init_1 (Nat.le_of_ble_eq_true rfl) (Nat.le_of_ble_eq_true rfl) ?_
  exact zx_vret (pc := 4) C hr9 hlk9 (Nat.zero_le _) (Nat.zero_le _) d_NU_init_4 (r4)

theorem k_NU_init (l : Launch) (D : va_G) (cB cI cL : ClassId) (a : Nat) (m9 b9 x9 f9 : Int32) : zx_K l zB D zcl (zt cB cI cL) y_NU_init b_NU_init 1 (none) [] 0 0 (zr 1 0 0) [.ref a] [(a, .inr (0, [.int m9, .int b9, .int x9, .int f9]))] (fun o w => o = .returned none ∧ w = [(a, .inr (0, [.int m9, .int b9, .int x9, .int f9]))]) := by
  refine zx_K.mk (Nat.le_of_ble_eq_true rfl) (fun p e s mm below meth c C hr hlk ht hn => ?_)
  exact sg_NU_init C hr hlk hn ⟨rfl, rfl⟩
set_option maxRecDepth 100000 in
set_option maxHeartbeats 4000000 in
theorem sg_NU_beginning {p : Program} {l : Launch} {e : Env} {R : Room} {s : State} {m : MethodId} {args : Array Value} {below : List Frame} {meth : Method} {c : Code} {D : va_G} {cB cI cL : ClassId} {w0 : va_W} {kr nr : Nat} {post : Outcome → va_W → Prop} (C : zx_C p s m args c b_NU_beginning 1 R_NU zB D zcl (zt cB cI cL) (va_A w0 s.heap.size)) {a : Nat} {m9 b9 x9 f9 : Int32} (hr9 : meth.sig.returnType = some .int) (hlk9 : meth.locks = false) (r6 : post (.returned (some (.int ((1 : Int32) <<< (m9 &&& 31))))) [(a, .inr (0, [.int m9, .int b9, .int x9, .int f9]))]) : zx_At p l e R s m args below meth c (zx_Q below s D zcl w0 kr nr R post) D zcl (va_A w0 s.heap.size) 1 [(0, .ref a)] [(a, .inr (0, [.int m9, .int b9, .int x9, .int f9]))] 0 0 0 [] := by
  refine zx_iconst (pc := 0) C d_NU_beginning_0 (v := (1 : Int32)) (by decide) ?_
  refine zx_aload_n (pc := 1) C d_NU_beginning_1 rfl 0 rfl ?_
  refine zx_get (pc := 2) (ci := 0) (Cn := R_NU) (T := T_NU) (N := 4) (v := .int m9) C zu_NU 0 rfl rfl 0 (by decide) zw_45 rfl rfl d_NU_beginning_2 ?_
  refine zx_ishl (pc := 5) C d_NU_beginning_5 ?_
  exact zx_iret (pc := 6) C hr9 hlk9 (Nat.zero_le _) (Nat.zero_le _) d_NU_beginning_6 (r6)

theorem k_NU_beginning (l : Launch) (D : va_G) (cB cI cL : ClassId) (R : Room) (a m : Nat) (b9 x9 f9 : Int32) (hm : m < 16) : zx_K l zB D zcl (zt cB cI cL) y_NU_beginning b_NU_beginning 1 (some .int) [] 0 0 R [.ref a] [(a, .inr (0, [.int (nI m), .int b9, .int x9, .int f9]))] (fun o w => o = .returned (some (.int (nI (2 ^ m)))) ∧ w = [(a, .inr (0, [.int (nI m), .int b9, .int x9, .int f9]))]) := by
  refine zx_K.mk (Nat.le_of_ble_eq_true rfl) (fun p e s mm below meth c C hr hlk ht hn => ?_)
  exact sg_NU_beginning C hr hlk ⟨by rw [zp_shl1 m hm], rfl⟩
set_option maxRecDepth 100000 in
set_option maxHeartbeats 4000000 in
theorem sg_NU_ending {p : Program} {l : Launch} {e : Env} {R : Room} {s : State} {m : MethodId} {args : Array Value} {below : List Frame} {meth : Method} {c : Code} {D : va_G} {cB cI cL : ClassId} {w0 : va_W} {kr nr : Nat} {post : Outcome → va_W → Prop} (C : zx_C p s m args c b_NU_ending 1 R_NU zB D zcl (zt cB cI cL) (va_A w0 s.heap.size)) {a : Nat} {m9 b9 x9 f9 : Int32} (hr9 : meth.sig.returnType = some .int) (hlk9 : meth.locks = false) (r8 : post (.returned (some (.int (((1 : Int32) <<< (m9 &&& 31)) + (1 : Int32))))) [(a, .inr (0, [.int m9, .int b9, .int x9, .int f9]))]) : zx_At p l e R s m args below meth c (zx_Q below s D zcl w0 kr nr R post) D zcl (va_A w0 s.heap.size) 1 [(0, .ref a)] [(a, .inr (0, [.int m9, .int b9, .int x9, .int f9]))] 0 0 0 [] := by
  refine zx_iconst (pc := 0) C d_NU_ending_0 (v := (1 : Int32)) (by decide) ?_
  refine zx_aload_n (pc := 1) C d_NU_ending_1 rfl 0 rfl ?_
  refine zx_get (pc := 2) (ci := 0) (Cn := R_NU) (T := T_NU) (N := 4) (v := .int m9) C zu_NU 0 rfl rfl 0 (by decide) zw_45 rfl rfl d_NU_ending_2 ?_
  refine zx_ishl (pc := 5) C d_NU_ending_5 ?_
  refine zx_iconst (pc := 6) C d_NU_ending_6 (v := (1 : Int32)) (by decide) ?_
  refine zx_iadd (pc := 7) C d_NU_ending_7 ?_
  exact zx_iret (pc := 8) C hr9 hlk9 (Nat.zero_le _) (Nat.zero_le _) d_NU_ending_8 (r8)

theorem k_NU_ending (l : Launch) (D : va_G) (cB cI cL : ClassId) (R : Room) (a m : Nat) (b9 x9 f9 : Int32) (hm : m < 16) : zx_K l zB D zcl (zt cB cI cL) y_NU_ending b_NU_ending 1 (some .int) [] 0 0 R [.ref a] [(a, .inr (0, [.int (nI m), .int b9, .int x9, .int f9]))] (fun o w => o = .returned (some (.int (nI (2 ^ m + 1)))) ∧ w = [(a, .inr (0, [.int (nI m), .int b9, .int x9, .int f9]))]) := by
  refine zx_K.mk (Nat.le_of_ble_eq_true rfl) (fun p e s mm below meth c C hr hlk ht hn => ?_)
  exact sg_NU_ending C hr hlk ⟨by rw [zp_shl1 m hm, nI_1], rfl⟩
set_option maxRecDepth 100000 in
set_option maxHeartbeats 4000000 in
theorem sg_NU_isFull {p : Program} {l : Launch} {e : Env} {R : Room} {s : State} {m : MethodId} {args : Array Value} {below : List Frame} {meth : Method} {c : Code} {D : va_G} {cB cI cL : ClassId} {w0 : va_W} {kr nr : Nat} {post : Outcome → va_W → Prop} (C : zx_C p s m args c b_NU_isFull 1 R_NU zB D zcl (zt cB cI cL) (va_A w0 s.heap.size)) {a : Nat} {m9 b9 x9 f9 : Int32} (hr9 : meth.sig.returnType = some .boolean) (hlk9 : meth.locks = false) (r15 : (x9 < (4096 : Int32)) → post (.returned (some (.int (0 : Int32)))) [(a, .inr (0, [.int m9, .int b9, .int x9, .int f9]))]) (r15_2 : (¬ x9 < (4096 : Int32)) → post (.returned (some (.int (1 : Int32)))) [(a, .inr (0, [.int m9, .int b9, .int x9, .int f9]))]) : zx_At p l e R s m args below meth c (zx_Q below s D zcl w0 kr nr R post) D zcl (va_A w0 s.heap.size) 1 [(0, .ref a)] [(a, .inr (0, [.int m9, .int b9, .int x9, .int f9]))] 0 0 0 [] := by
  refine zx_aload_n (pc := 0) C d_NU_isFull_0 rfl 0 rfl ?_
  refine zx_get (pc := 1) (ci := 0) (Cn := R_NU) (T := T_NU) (N := 4) (v := .int x9) C zu_NU 0 rfl rfl 2 (by decide) zw_49 rfl rfl d_NU_isFull_1 ?_
  refine zx_sipush (pc := 4) C d_NU_isFull_4 (v := (4096 : Int32)) (by decide) ?_
  refine zx_icmp_lt (pc := 7) C 14 d_NU_isFull_7 (by decide) (fun c7 => ?_) (fun c7 => ?_)
  · refine zx_iconst (pc := 14) C d_NU_isFull_14 (v := (0 : Int32)) (by decide) ?_
    exact zx_zret (pc := 15) C hr9 (Or.inl rfl) hlk9 (Nat.zero_le _) (Nat.zero_le _) d_NU_isFull_15 (r15 c7)
  · refine zx_iconst (pc := 10) C d_NU_isFull_10 (v := (1 : Int32)) (by decide) ?_
    refine zx_goto (pc := 11) C 15 d_NU_isFull_11 (by decide) ?_
    exact zx_zret (pc := 15) C hr9 (Or.inr rfl) hlk9 (Nat.zero_le _) (Nat.zero_le _) d_NU_isFull_15 (r15_2 c7)

theorem k_NU_isFull (l : Launch) (D : va_G) (cB cI cL : ClassId) (R : Room) (a x : Nat) (m9 b9 f9 : Int32) (hx : x < 2 ^ 31) : zx_K l zB D zcl (zt cB cI cL) y_NU_isFull b_NU_isFull 1 (some .boolean) [] 0 0 R [.ref a] [(a, .inr (0, [.int m9, .int b9, .int (nI x), .int f9]))] (fun o w => o = .returned (some (.int (zb (decide (4096 ≤ x))))) ∧ w = [(a, .inr (0, [.int m9, .int b9, .int (nI x), .int f9]))]) := by
  refine zx_K.mk (Nat.le_of_ble_eq_true rfl) (fun p e s mm below meth c C hr hlk ht hn => ?_)
  refine sg_NU_isFull C hr hlk (fun h => ⟨?_, rfl⟩) (fun h => ⟨?_, rfl⟩)
  · have h2 : x < 4096 := (zp_lt (K := 4096) rfl hx (by decide)).mp h
    rw [decide_eq_false (by omega)]; rfl
  · have h2 : ¬ x < 4096 := fun q => h ((zp_lt (K := 4096) rfl hx (by decide)).mpr q)
    rw [decide_eq_true (by omega)]; rfl
set_option maxRecDepth 100000 in
set_option maxHeartbeats 4000000 in
theorem sg_NU_isIndex {p : Program} {l : Launch} {e : Env} {R : Room} {s : State} {m : MethodId} {args : Array Value} {below : List Frame} {meth : Method} {c : Code} {D : va_G} {cB cI cL : ClassId} {w0 : va_W} {kr nr : Nat} {post : Outcome → va_W → Prop} (C : zx_C p s m args c b_NU_isIndex 2 R_NU zB D zcl (zt cB cI cL) (va_A w0 s.heap.size)) {a : Nat} {m9 b9 x9 f9 : Int32} {c9 : Int32} (hr9 : meth.sig.returnType = some .boolean) (hlk9 : meth.locks = false) (r15 : (((1 : Int32) <<< (m9 &&& 31)) ≤ c9) → post (.returned (some (.int (0 : Int32)))) [(a, .inr (0, [.int m9, .int b9, .int x9, .int f9]))]) (r15_2 : (¬ ((1 : Int32) <<< (m9 &&& 31)) ≤ c9) → post (.returned (some (.int (1 : Int32)))) [(a, .inr (0, [.int m9, .int b9, .int x9, .int f9]))]) : zx_At p l e R s m args below meth c (zx_Q below s D zcl w0 kr nr R post) D zcl (va_A w0 s.heap.size) 2 [(0, .ref a), (1, .int c9)] [(a, .inr (0, [.int m9, .int b9, .int x9, .int f9]))] 0 0 0 [] := by
  refine zx_iload_n (pc := 0) C d_NU_isIndex_0 rfl 1 rfl ?_
  refine zx_iconst (pc := 1) C d_NU_isIndex_1 (v := (1 : Int32)) (by decide) ?_
  refine zx_aload_n (pc := 2) C d_NU_isIndex_2 rfl 0 rfl ?_
  refine zx_get (pc := 3) (ci := 0) (Cn := R_NU) (T := T_NU) (N := 4) (v := .int m9) C zu_NU 0 rfl rfl 0 (by decide) zw_45 rfl rfl d_NU_isIndex_3 ?_
  refine zx_ishl (pc := 6) C d_NU_isIndex_6 ?_
  refine zx_icmp_ge (pc := 7) C 14 d_NU_isIndex_7 (by decide) (fun c7 => ?_) (fun c7 => ?_)
  · refine zx_iconst (pc := 14) C d_NU_isIndex_14 (v := (0 : Int32)) (by decide) ?_
    exact zx_zret (pc := 15) C hr9 (Or.inl rfl) hlk9 (Nat.zero_le _) (Nat.zero_le _) d_NU_isIndex_15 (r15 c7)
  · refine zx_iconst (pc := 10) C d_NU_isIndex_10 (v := (1 : Int32)) (by decide) ?_
    refine zx_goto (pc := 11) C 15 d_NU_isIndex_11 (by decide) ?_
    exact zx_zret (pc := 15) C hr9 (Or.inr rfl) hlk9 (Nat.zero_le _) (Nat.zero_le _) d_NU_isIndex_15 (r15_2 c7)

theorem k_NU_isIndex (l : Launch) (D : va_G) (cB cI cL : ClassId) (R : Room) (a m k : Nat) (b9 x9 f9 : Int32) (hm : m < 16) (hk : k < 2 ^ 31) : zx_K l zB D zcl (zt cB cI cL) y_NU_isIndex b_NU_isIndex 2 (some .boolean) [] 0 0 R [.ref a, .int (nI k)] [(a, .inr (0, [.int (nI m), .int b9, .int x9, .int f9]))] (fun o w => o = .returned (some (.int (zb (decide (k < 2 ^ m))))) ∧ w = [(a, .inr (0, [.int (nI m), .int b9, .int x9, .int f9]))]) := by
  refine zx_K.mk (Nat.le_of_ble_eq_true rfl) (fun p e s mm below meth c C hr hlk ht hn => ?_)
  refine sg_NU_isIndex C hr hlk (fun h => ⟨?_, rfl⟩) (fun h => ⟨?_, rfl⟩)
  · rw [zp_shl1 m hm] at h
    have h2 := (nI_leI (zp_pow hm) hk).mp h
    rw [decide_eq_false (by omega)]; rfl
  · rw [zp_shl1 m hm] at h
    have h2 : ¬ 2 ^ m ≤ k := fun q => h ((nI_leI (zp_pow hm) hk).mpr q)
    rw [decide_eq_true (by omega)]; rfl
set_option maxRecDepth 100000 in
set_option maxHeartbeats 4000000 in
theorem sg_NU_startWith {p : Program} {l : Launch} {e : Env} {s : State} {m : MethodId} {args : Array Value} {below : List Frame} {meth : Method} {c : Code} {D : va_G} {cB cI cL : ClassId} {w0 : va_W} {kr nr : Nat} {post : Outcome → va_W → Prop} (C : zx_C p s m args c b_NU_startWith 2 R_NU zB D zcl (zt cB cI cL) (va_A w0 s.heap.size)) {a : Nat} {m9 b9 x9 f9 : Int32} {m8 : Nat} (hm8 : m8 < 16) (hr9 : meth.sig.returnType = none) (hlk9 : meth.locks = false) (r9 : post (.returned none) [(a, .inr (0, [.int (nI m8), .int (nI (m8 + 1)), .int (nI (2 ^ m8 + 2)), .int 1]))]) : zx_At p l e (zr 1 0 0) s m args below meth c (zx_Q below s D zcl w0 kr nr (zr 1 0 0) post) D zcl (va_A w0 s.heap.size) 2 [(0, .ref a), (1, .int (nI m8))] [(a, .inr (0, [.int m9, .int b9, .int x9, .int f9]))] 0 0 0 [] := by
  refine zx_aload_n (pc := 0) C d_NU_startWith_0 rfl 0 rfl ?_
  refine zx_iload_n (pc := 1) C d_NU_startWith_1 rfl 1 rfl ?_
  refine zx_put (pc := 2) (ci := 0) (Cn := R_NU) (T := T_NU) (N := 4) (v := .int (nI m8)) (ty := .int) (ws' := [(a, .inr (0, [.int (nI m8), .int b9, .int x9, .int f9]))]) C zu_NU ty_NU tyk_NU nm_NU 0 rfl rfl 0 (by decide) zw_45 rfl rfl (by decide +kernel) rfl rfl (Nat.le_of_ble_eq_true rfl) rfl d_NU_startWith_2 ?_
  refine zx_aload_n (pc := 5) C d_NU_startWith_5 rfl 0 rfl ?_
  refine zx_callV (pc := 6) (ix := 15) (As := []) (b := a) (q0 := 0) (wr := []) (st := []) C (zx_cw.of (C.w zw_285)) (by decide +kernel) ⟨by decide +kernel, by decide +kernel⟩ zw_283 zw_284 zw_282 rfl rfl rfl rfl rfl (k_NU_beginAnew l D cB cI cL (zr 0 0 0) a m8 b9 x9 f9 hm8) rfl [0] [] rfl rfl (by decide) (by decide) (by decide) (Nat.le_of_ble_eq_true rfl) (Nat.le_of_ble_eq_true rfl) (Nat.le_of_ble_eq_true rfl) (Nat.le_of_ble_eq_true rfl) d_NU_startWith_6 (fun o w1 hp => ?_)
  obtain ⟨rfl, rfl⟩ := hp
  refine zx_rv (k2 := 0) (n2 := 0) rfl rfl ?_
  refine zx_ws (ws' := [(a, .inr (0, [.int (nI m8), .int (nI (m8 + 1)), .int (nI (2 ^ m8 + 2)), .int 1]))]) [0] (by decide) rfl ?_
  exact zx_vret (pc := 9) C hr9 hlk9 (Nat.zero_le _) (Nat.zero_le _) d_NU_startWith_9 (r9)

theorem k_NU_startWith (l : Launch) (D : va_G) (cB cI cL : ClassId) (a m : Nat) (m9 b9 x9 f9 : Int32) (hm : m < 16) : zx_K l zB D zcl (zt cB cI cL) y_NU_startWith b_NU_startWith 2 (none) [] 0 0 (zr 1 0 0) [.ref a, .int (nI m)] [(a, .inr (0, [.int m9, .int b9, .int x9, .int f9]))] (fun o w => o = .returned none ∧ w = [(a, .inr (0, [.int (nI m), .int (nI (m + 1)), .int (nI (2 ^ m + 2)), .int 1]))]) := by
  refine zx_K.mk (Nat.le_of_ble_eq_true rfl) (fun p e s mm below meth c C hr hlk ht hn => ?_)
  exact sg_NU_startWith C hm hr hlk ⟨rfl, rfl⟩
set_option maxRecDepth 100000 in
set_option maxHeartbeats 4000000 in
theorem sg_NU_ncmr {p : Program} {l : Launch} {e : Env} {s : State} {m : MethodId} {args : Array Value} {below : List Frame} {meth : Method} {c : Code} {D : va_G} {cB cI cL : ClassId} {w0 : va_W} {kr nr : Nat} {post : Outcome → va_W → Prop} (C : zx_C p s m args c b_NU_nextCodeMakesRow 1 R_NU zB D zcl (zt cB cI cL) (va_A w0 s.heap.size)) {a : Nat} {m9 b9 f9 : Int32} {x8 : Nat} (hx8 : x8 < 2 ^ 31) (hr9 : meth.sig.returnType = some .boolean) (hlk9 : meth.locks = false) (r19 : (¬ f9 = 0) → post (.returned (some (.int (0 : Int32)))) [(a, .inr (0, [.int m9, .int b9, .int (nI x8), .int f9]))]) (r19_2 : (f9 = 0) → (¬ (zb (decide (4096 ≤ x8))) = 0) → post (.returned (some (.int (0 : Int32)))) [(a, .inr (0, [.int m9, .int b9, .int (nI x8), .int f9]))]) (r19_3 : (f9 = 0) → ((zb (decide (4096 ≤ x8))) = 0) → post (.returned (some (.int (1 : Int32)))) [(a, .inr (0, [.int m9, .int b9, .int (nI x8), .int f9]))]) : zx_At p l e (zr 1 0 0) s m args below meth c (zx_Q below s D zcl w0 kr nr (zr 1 0 0) post) D zcl (va_A w0 s.heap.size) 1 [(0, .ref a)] [(a, .inr (0, [.int m9, .int b9, .int (nI x8), .int f9]))] 0 0 0 [] := by
  refine zx_aload_n (pc := 0) C d_NU_nextCodeMakesRow_0 rfl 0 rfl ?_
  refine zx_get (pc := 1) (ci := 0) (Cn := R_NU) (T := T_NU) (N := 4) (v := .int f9) C zu_NU 0 rfl rfl 3 (by decide) zw_52 rfl rfl d_NU_nextCodeMakesRow_1 ?_
  refine zx_if_ne (pc := 4) C 18 d_NU_nextCodeMakesRow_4 (by decide) (fun c4 => ?_) (fun c4 => ?_)
  · refine zx_iconst (pc := 18) C d_NU_nextCodeMakesRow_18 (v := (0 : Int32)) (by decide) ?_
    exact zx_zret (pc := 19) C hr9 (Or.inl rfl) hlk9 (Nat.zero_le _) (Nat.zero_le _) d_NU_nextCodeMakesRow_19 (r19 c4)
  · refine zx_aload_n (pc := 7) C d_NU_nextCodeMakesRow_7 rfl 0 rfl ?_
    refine zx_callV (pc := 8) (ix := 28) (As := []) (b := a) (q0 := 0) (wr := []) (st := []) C (zx_cw.of (C.w zw_309)) (by decide +kernel) ⟨by decide +kernel, by decide +kernel⟩ zw_307 zw_308 zw_306 rfl rfl rfl rfl rfl (k_NU_isFull l D cB cI cL (zr 0 0 0) a x8 m9 b9 f9 hx8) rfl [0] [] rfl rfl (by decide) (by decide) (by decide) (Nat.le_of_ble_eq_true rfl) (Nat.le_of_ble_eq_true rfl) (Nat.le_of_ble_eq_true rfl) (Nat.le_of_ble_eq_true rfl) d_NU_nextCodeMakesRow_8 (fun o w1 hp => ?_)
    obtain ⟨rfl, rfl⟩ := hp
    refine zx_ri (k2 := 0) (n2 := 0) rfl rfl ?_
    refine zx_ws (ws' := [(a, .inr (0, [.int m9, .int b9, .int (nI x8), .int f9]))]) [0] (by decide) rfl ?_
    refine zx_if_ne (pc := 11) C 18 d_NU_nextCodeMakesRow_11 (by decide) (fun c11 => ?_) (fun c11 => ?_)
    · refine zx_iconst (pc := 18) C d_NU_nextCodeMakesRow_18 (v := (0 : Int32)) (by decide) ?_
      exact zx_zret (pc := 19) C hr9 (Or.inl rfl) hlk9 (Nat.zero_le _) (Nat.zero_le _) d_NU_nextCodeMakesRow_19 (r19_2 c4 c11)
    · refine zx_iconst (pc := 14) C d_NU_nextCodeMakesRow_14 (v := (1 : Int32)) (by decide) ?_
      refine zx_goto (pc := 15) C 19 d_NU_nextCodeMakesRow_15 (by decide) ?_
      exact zx_zret (pc := 19) C hr9 (Or.inr rfl) hlk9 (Nat.zero_le _) (Nat.zero_le _) d_NU_nextCodeMakesRow_19 (r19_3 c4 c11)

theorem k_NU_nextCodeMakesRow (l : Launch) (D : va_G) (cB cI cL : ClassId) (a x : Nat) (m9 b9 : Int32) (f : Bool) (hx : x < 2 ^ 31) : zx_K l zB D zcl (zt cB cI cL) y_NU_nextCodeMakesRow b_NU_nextCodeMakesRow 1 (some .boolean) [] 0 0 (zr 1 0 0) [.ref a] [(a, .inr (0, [.int m9, .int b9, .int (nI x), .int (zb f)]))] (fun o w => o = .returned (some (.int (zb (!f && decide (x < 4096))))) ∧ w = [(a, .inr (0, [.int m9, .int b9, .int (nI x), .int (zb f)]))]) := by
  refine zx_K.mk (Nat.le_of_ble_eq_true rfl) (fun p e s mm below meth c C hr hlk ht hn => ?_)
  refine sg_NU_ncmr C hx hr hlk ?_ ?_ ?_
  · intro h
    cases f with
    | false => exact absurd rfl h
    | true => exact ⟨rfl, rfl⟩
  · intro h1 h2
    have h3 := zb_0.mp h1
    subst h3
    have h4 : 4096 ≤ x := by
      by_cases q : 4096 ≤ x
      · exact q
      · rw [decide_eq_false q] at h2; exact absurd rfl h2
    exact ⟨by rw [decide_eq_false (by omega : ¬ x < 4096)]; rfl, rfl⟩
  · intro h1 h2
    have h3 := zb_0.mp h1
    subst h3
    have h4 := zb_0.mp h2
    have h5 : ¬ 4096 ≤ x := of_decide_eq_false h4
    exact ⟨by rw [decide_eq_true (by omega : x < 4096)]; rfl, rfl⟩
set_option maxRecDepth 100000 in
set_option maxHeartbeats 4000000 in
theorem sg_NU_pass {p : Program} {l : Launch} {e : Env} {s : State} {m : MethodId} {args : Array Value} {below : List Frame} {meth : Method} {c : Code} {D : va_G} {cB cI cL : ClassId} {w0 : va_W} {kr nr : Nat} {post : Outcome → va_W → Prop} (C : zx_C p s m args c b_NU_passCode 1 R_NU zB D zcl (zt cB cI cL) (va_A w0 s.heap.size)) {a : Nat} {m9 : Int32} {b8 x8 : Nat} {f8 : Bool} (hx8 : x8 < 2 ^ 31) (hr9 : meth.sig.returnType = none) (hlk9 : meth.locks = false) (r54 : ((zb (!f8 && decide (x8 < 4096))) = 0) → post (.returned none) [(a, .inr (0, [.int m9, .int (nI b8), .int (nI x8), .int (0 : Int32)]))]) (e13 : (¬ (zb (!f8 && decide (x8 < 4096))) = 0) → ((nI x8) + (1 : Int32)) = (nI (x8 + 1))) (e26 : (¬ (zb (!f8 && decide (x8 < 4096))) = 0) → ((1 : Int32) <<< ((nI b8) &&& 31)) = (nI (2 ^ b8))) (r54_2 : (¬ (zb (!f8 && decide (x8 < 4096))) = 0) → (¬ (nI (x8 + 1)) = (nI (2 ^ b8))) → post (.returned none) [(a, .inr (0, [.int m9, .int (nI b8), .int (nI (x8 + 1)), .int (0 : Int32)]))]) (r54_3 : (¬ (zb (!f8 && decide (x8 < 4096))) = 0) → ((nI (x8 + 1)) = (nI (2 ^ b8))) → ((12 : Int32) ≤ (nI b8)) → post (.returned none) [(a, .inr (0, [.int m9, .int (nI b8), .int (nI (x8 + 1)), .int (0 : Int32)]))]) (e45 : (¬ (zb (!f8 && decide (x8 < 4096))) = 0) → ((nI (x8 + 1)) = (nI (2 ^ b8))) → (¬ (12 : Int32) ≤ (nI b8)) → ((nI b8) + (1 : Int32)) = (nI (b8 + 1))) (r54_4 : (¬ (zb (!f8 && decide (x8 < 4096))) = 0) → ((nI (x8 + 1)) = (nI (2 ^ b8))) → (¬ (12 : Int32) ≤ (nI b8)) → post (.returned none) [(a, .inr (0, [.int m9, .int (nI (b8 + 1)), .int (nI (x8 + 1)), .int (0 : Int32)]))]) : zx_At p l e (zr 2 0 0) s m args below meth c (zx_Q below s D zcl w0 kr nr (zr 2 0 0) post) D zcl (va_A w0 s.heap.size) 1 [(0, .ref a)] [(a, .inr (0, [.int m9, .int (nI b8), .int (nI x8), .int (zb f8)]))] 0 0 0 [] := by
  refine zx_aload_n (pc := 0) C d_NU_passCode_0 rfl 0 rfl ?_
  refine zx_callV (pc := 1) (ix := 32) (As := []) (b := a) (q0 := 0) (wr := []) (st := []) C (zx_cw.of (C.w zw_305)) (by decide +kernel) ⟨by decide +kernel, by decide +kernel⟩ zw_303 zw_304 zw_341 rfl rfl rfl rfl rfl (k_NU_nextCodeMakesRow l D cB cI cL a x8 m9 (nI b8) f8 hx8) rfl [0] [] rfl rfl (by decide) (by decide) (by decide) (Nat.le_of_ble_eq_true rfl) (Nat.le_of_ble_eq_true rfl) (Nat.le_of_ble_eq_true rfl) (Nat.le_of_ble_eq_true rfl) d_NU_passCode_1 (fun o w1 hp => ?_)
  obtain ⟨rfl, rfl⟩ := hp
  refine zx_ri (k2 := 0) (n2 := 0) rfl rfl ?_
  refine zx_ws (ws' := [(a, .inr (0, [.int m9, .int (nI b8), .int (nI x8), .int (zb f8)]))]) [0] (by decide) rfl ?_
  refine zx_if_eq (pc := 4) C 49 d_NU_passCode_4 (by decide) (fun c4 => ?_) (fun c4 => ?_)
  · refine zx_aload_n (pc := 49) C d_NU_passCode_49 rfl 0 rfl ?_
    refine zx_iconst (pc := 50) C d_NU_passCode_50 (v := (0 : Int32)) (by decide) ?_
    refine zx_put (pc := 51) (ci := 0) (Cn := R_NU) (T := T_NU) (N := 4) (v := .int (0 : Int32)) (ty := .boolean) (ws' := [(a, .inr (0, [.int m9, .int (nI b8), .int (nI x8), .int (0 : Int32)]))]) C zu_NU ty_NU tyk_NU nm_NU 0 rfl rfl 3 (by decide) zw_52 rfl rfl (by decide +kernel) (by decide) (by decide) (Nat.le_of_ble_eq_true rfl) rfl d_NU_passCode_51 ?_
    exact zx_vret (pc := 54) C hr9 hlk9 (Nat.zero_le _) (Nat.zero_le _) d_NU_passCode_54 (r54 c4)
  · refine zx_aload_n (pc := 7) C d_NU_passCode_7 rfl 0 rfl ?_
    refine zx_dup (pc := 8) C d_NU_passCode_8 rfl ?_
    refine zx_get (pc := 9) (ci := 0) (Cn := R_NU) (T := T_NU) (N := 4) (v := .int (nI x8)) C zu_NU 0 rfl rfl 2 (by decide) zw_49 rfl rfl d_NU_passCode_9 ?_
    refine zx_iconst (pc := 12) C d_NU_passCode_12 (v := (1 : Int32)) (by decide) ?_
    refine zx_iadd (pc := 13) C d_NU_passCode_13 ?_
    refine zx_seti (nI (x8 + 1)) (e13 c4) ?_
    refine zx_put (pc := 14) (ci := 0) (Cn := R_NU) (T := T_NU) (N := 4) (v := .int (nI (x8 + 1))) (ty := .int) (ws' := [(a, .inr (0, [.int m9, .int (nI b8), .int (nI (x8 + 1)), .int (zb f8)]))]) C zu_NU ty_NU tyk_NU nm_NU 0 rfl rfl 2 (by decide) zw_49 rfl rfl (by decide +kernel) rfl rfl (Nat.le_of_ble_eq_true rfl) rfl d_NU_passCode_14 ?_
    refine zx_aload_n (pc := 17) C d_NU_passCode_17 rfl 0 rfl ?_
    refine zx_get (pc := 18) (ci := 0) (Cn := R_NU) (T := T_NU) (N := 4) (v := .int (nI (x8 + 1))) C zu_NU 0 rfl rfl 2 (by decide) zw_49 rfl rfl d_NU_passCode_18 ?_
    refine zx_iconst (pc := 21) C d_NU_passCode_21 (v := (1 : Int32)) (by decide) ?_
    refine zx_aload_n (pc := 22) C d_NU_passCode_22 rfl 0 rfl ?_
    refine zx_get (pc := 23) (ci := 0) (Cn := R_NU) (T := T_NU) (N := 4) (v := .int (nI b8)) C zu_NU 0 rfl rfl 1 (by decide) zw_48 rfl rfl d_NU_passCode_23 ?_
    refine zx_ishl (pc := 26) C d_NU_passCode_26 ?_
    refine zx_seti (nI (2 ^ b8)) (e26 c4) ?_
    refine zx_icmp_ne (pc := 27) C 49 d_NU_passCode_27 (by decide) (fun c27 => ?_) (fun c27 => ?_)
    · refine zx_aload_n (pc := 49) C d_NU_passCode_49 rfl 0 rfl ?_
      refine zx_iconst (pc := 50) C d_NU_passCode_50 (v := (0 : Int32)) (by decide) ?_
      refine zx_put (pc := 51) (ci := 0) (Cn := R_NU) (T := T_NU) (N := 4) (v := .int (0 : Int32)) (ty := .boolean) (ws' := [(a, .inr (0, [.int m9, .int (nI b8), .int (nI (x8 + 1)), .int (0 : Int32)]))]) C zu_NU ty_NU tyk_NU nm_NU 0 rfl rfl 3 (by decide) zw_52 rfl rfl (by decide +kernel) (by decide) (by decide) (Nat.le_of_ble_eq_true rfl) rfl d_NU_passCode_51 ?_
      exact zx_vret (pc := 54) C hr9 hlk9 (Nat.zero_le _) (Nat.zero_le _) d_NU_passCode_54 (r54_2 c4 c27)
    · refine zx_aload_n (pc := 30) C d_NU_passCode_30 rfl 0 rfl ?_
      refine zx_get (pc := 31) (ci := 0) (Cn := R_NU) (T := T_NU) (N := 4) (v := .int (nI b8)) C zu_NU 0 rfl rfl 1 (by decide) zw_48 rfl rfl d_NU_passCode_31 ?_
      refine zx_bipush (pc := 34) C d_NU_passCode_34 (v := (12 : Int32)) (by decide) ?_
      refine zx_icmp_ge (pc := 36) C 49 d_NU_passCode_36 (by decide) (fun c36 => ?_) (fun c36 => ?_)
      · refine zx_aload_n (pc := 49) C d_NU_passCode_49 rfl 0 rfl ?_
        refine zx_iconst (pc := 50) C d_NU_passCode_50 (v := (0 : Int32)) (by decide) ?_
        refine zx_put (pc := 51) (ci := 0) (Cn := R_NU) (T := T_NU) (N := 4) (v := .int (0 : Int32)) (ty := .boolean) (ws' := [(a, .inr (0, [.int m9, .int (nI b8), .int (nI (x8 + 1)), .int (0 : Int32)]))]) C zu_NU ty_NU tyk_NU nm_NU 0 rfl rfl 3 (by decide) zw_52 rfl rfl (by decide +kernel) (by decide) (by decide) (Nat.le_of_ble_eq_true rfl) rfl d_NU_passCode_51 ?_
        exact zx_vret (pc := 54) C hr9 hlk9 (Nat.zero_le _) (Nat.zero_le _) d_NU_passCode_54 (r54_3 c4 c27 c36)
      · refine zx_aload_n (pc := 39) C d_NU_passCode_39 rfl 0 rfl ?_
        refine zx_dup (pc := 40) C d_NU_passCode_40 rfl ?_
        refine zx_get (pc := 41) (ci := 0) (Cn := R_NU) (T := T_NU) (N := 4) (v := .int (nI b8)) C zu_NU 0 rfl rfl 1 (by decide) zw_48 rfl rfl d_NU_passCode_41 ?_
        refine zx_iconst (pc := 44) C d_NU_passCode_44 (v := (1 : Int32)) (by decide) ?_
        refine zx_iadd (pc := 45) C d_NU_passCode_45 ?_
        refine zx_seti (nI (b8 + 1)) (e45 c4 c27 c36) ?_
        refine zx_put (pc := 46) (ci := 0) (Cn := R_NU) (T := T_NU) (N := 4) (v := .int (nI (b8 + 1))) (ty := .int) (ws' := [(a, .inr (0, [.int m9, .int (nI (b8 + 1)), .int (nI (x8 + 1)), .int (zb f8)]))]) C zu_NU ty_NU tyk_NU nm_NU 0 rfl rfl 1 (by decide) zw_48 rfl rfl (by decide +kernel) rfl rfl (Nat.le_of_ble_eq_true rfl) rfl d_NU_passCode_46 ?_
        refine zx_aload_n (pc := 49) C d_NU_passCode_49 rfl 0 rfl ?_
        refine zx_iconst (pc := 50) C d_NU_passCode_50 (v := (0 : Int32)) (by decide) ?_
        refine zx_put (pc := 51) (ci := 0) (Cn := R_NU) (T := T_NU) (N := 4) (v := .int (0 : Int32)) (ty := .boolean) (ws' := [(a, .inr (0, [.int m9, .int (nI (b8 + 1)), .int (nI (x8 + 1)), .int (0 : Int32)]))]) C zu_NU ty_NU tyk_NU nm_NU 0 rfl rfl 3 (by decide) zw_52 rfl rfl (by decide +kernel) (by decide) (by decide) (Nat.le_of_ble_eq_true rfl) rfl d_NU_passCode_51 ?_
        exact zx_vret (pc := 54) C hr9 hlk9 (Nat.zero_le _) (Nat.zero_le _) d_NU_passCode_54 (r54_4 c4 c27 c36)

/-- the numbers behind a code: next row, bits -/
def zn_x (x : Nat) (f : Bool) : Nat := if f = false ∧ x < 4096 then x + 1 else x
def zn_b (b x : Nat) (f : Bool) : Nat := if f = false ∧ x < 4096 ∧ x + 1 = 2 ^ b ∧ b < 12 then b + 1 else b
theorem k_NU_passCode (l : Launch) (D : va_G) (cB cI cL : ClassId) (a b x : Nat) (m9 : Int32) (f : Bool) (hb : b < 16) (hx : x ≤ 4096) : zx_K l zB D zcl (zt cB cI cL) y_NU_passCode b_NU_passCode 1 (none) [] 0 0 (zr 2 0 0) [.ref a] [(a, .inr (0, [.int m9, .int (nI b), .int (nI x), .int (zb f)]))] (fun o w => o = .returned none ∧ w = [(a, .inr (0, [.int m9, .int (nI (zn_b b x f)), .int (nI (zn_x x f)), .int 0]))]) := by
  refine zx_K.mk (Nat.le_of_ble_eq_true rfl) (fun p e s mm below meth c C hr hlk ht hn => ?_)
  have hx1 : x < 2 ^ 31 := by omega
  have hx2 : x + 1 < 2 ^ 31 := by omega
  have hp := zp_pow hb
  have hn : ∀ {q : Bool}, ¬ zb q = 0 → q = true := fun {q} h => by
    cases q with
    | false => exact absurd rfl h
    | true => rfl
  have key : ¬ zb (!f && decide (x < 4096)) = 0 → f = false ∧ x < 4096 := fun h => by
    have h1 := hn h
    simp only [Bool.and_eq_true, Bool.not_eq_true', decide_eq_true_eq] at h1
    exact h1
  refine sg_NU_pass C hx1 hr hlk ?_ (fun _ => nI_1 x) (fun _ => zp_shl1 b hb) ?_ ?_ (fun _ _ _ => nI_1 b) ?_
  · intro h
    have h1 := zb_0.mp h
    have h2 : ¬ (f = false ∧ x < 4096) := fun q => by
      rw [q.1, decide_eq_true q.2] at h1
      cases h1
    refine ⟨rfl, ?_⟩
    rw [zn_x, if_neg h2, zn_b, if_neg (fun q => h2 ⟨q.1, q.2.1⟩)]
  · intro h h2
    obtain ⟨g1, g2⟩ := key h
    have h3 : ¬ x + 1 = 2 ^ b := fun q => h2 (by rw [q])
    refine ⟨rfl, ?_⟩
    rw [zn_x, if_pos ⟨g1, g2⟩, zn_b, if_neg (fun q => h3 q.2.2.1)]
  · intro h h2 h3
    obtain ⟨g1, g2⟩ := key h
    have h4 : 12 ≤ b := (zp_ge (K := 12) rfl (by omega) (by decide)).mp h3
    refine ⟨rfl, ?_⟩
    rw [zn_x, if_pos ⟨g1, g2⟩, zn_b, if_neg (fun q => absurd q.2.2.2 (by omega))]
  · intro h h2 h3
    obtain ⟨g1, g2⟩ := key h
    have h4 : ¬ 12 ≤ b := fun q => h3 ((zp_ge (K := 12) rfl (by omega) (by decide)).mpr q)
    have h5 : x + 1 = 2 ^ b := (nI_eq hx2 hp).mp h2
    refine ⟨rfl, ?_⟩
    rw [zn_x, if_pos ⟨g1, g2⟩, zn_b, if_pos ⟨g1, g2, h5, by omega⟩]
