theorem zu_NU : ∀ w ∈ u_ws R_NU T_NU 4, w ∈ zB := by decide +kernel
theorem zu_BS : ∀ w ∈ u_ws R_BS T_BS 4, w ∈ zB := by decide +kernel
theorem zu_UN : ∀ w ∈ u_ws R_UN T_UN 7, w ∈ zB := by decide +kernel
theorem zu_PK : ∀ w ∈ u_ws R_PK T_PK 5, w ∈ zB := by decide +kernel
theorem zu_LB : ∀ w ∈ u_ws R_LB T_LB 7, w ∈ zB := by decide +kernel
theorem zu_MO : ∀ w ∈ u_ws R_MO T_MO 21, w ∈ zB := by decide +kernel
set_option maxRecDepth 100000 in
set_option maxHeartbeats 4000000 in
theorem sg_NU_beginAnew {p : Program} {l : Launch} {e : Env} {R : Room} {s : State} {m : MethodId} {args : Array Value} {below : List Frame} {meth : Method} {c : Code} {D : va_G} {cB cI cL : ClassId} {w0 : va_W} {post : Outcome → va_W → Prop} (C : zx_C p s m args c b_NU_beginAnew 1 R_NU zB D zcl (zt cB cI cL) (va_A w0 s.heap.size)) {a : Nat} {m9 b9 x9 f9 : Int32} (hr9 : meth.sig.returnType = none) (hlk9 : meth.locks = false) (hkc9 : 0 ≤ R.cells) (hks9 : 0 ≤ R.slots) (r27 : post (.returned none) [(a, .inr (0, [.int m9, .int (m9 + (1 : Int32)), .int (((1 : Int32) <<< (m9 &&& 31)) + (2 : Int32)), .int (1 : Int32)]))]) : zx_At p l e R s m args below meth c (zx_Q below s D zcl w0 R post) D zcl (va_A w0 s.heap.size) 1 [(0, .ref a)] [(a, .inr (0, [.int m9, .int b9, .int x9, .int f9]))] 0 0 0 [] := by
  refine zx_aload_n (pc := 0) C d_NU_beginAnew_0 rfl 0 rfl ?_
  refine zx_aload_n (pc := 1) C d_NU_beginAnew_1 rfl 0 rfl ?_
  refine zx_get (pc := 2) (ci := 0) (Cn := R_NU) (T := T_NU) (N := 4) (v := .int m9) C zu_NU 0 rfl rfl 0 (by decide) zw_45 rfl rfl d_NU_beginAnew_2 ?_
  refine zx_iconst (pc := 5) C d_NU_beginAnew_5 (v := (1 : Int32)) (by decide) ?_
  refine zx_iadd (pc := 6) C d_NU_beginAnew_6 ?_
  refine zx_put (pc := 7) (ci := 0) (Cn := R_NU) (T := T_NU) (N := 4) (v := .int (m9 + (1 : Int32))) (ty := .int) (ws' := [(a, .inr (0, [.int m9, .int (m9 + (1 : Int32)), .int x9, .int f9]))]) C zu_NU ty_NU tyk_NU nm_NU 0 rfl rfl 1 (by decide) zw_48 rfl rfl (by decide +kernel) rfl rfl (Nat.le_of_ble_eq_true rfl) rfl d_NU_beginAnew_7 ?_
  refine zx_aload_n (pc := 10) C d_NU_beginAnew_10 rfl 0 rfl ?_
  refine zx_iconst (pc := 11) C d_NU_beginAnew_11 (v := (1 : Int32)) (by decide) ?_
  refine zx_aload_n (pc := 12) C d_NU_beginAnew_12 rfl 0 rfl ?_
  refine zx_get (pc := 13) (ci := 0) (Cn := R_NU) (T := T_NU) (N := 4) (v := .int m9) C zu_NU 0 rfl rfl 0 (by decide) zw_45 rfl rfl d_NU_beginAnew_13 ?_
  refine zx_ishl (pc := 16) C d_NU_beginAnew_16 ?_
  refine zx_iconst (pc := 17) C d_NU_beginAnew_17 (v := (2 : Int32)) (by decide) ?_
  refine zx_iadd (pc := 18) C d_NU_beginAnew_18 ?_
  refine zx_put (pc := 19) (ci := 0) (Cn := R_NU) (T := T_NU) (N := 4) (v := .int (((1 : Int32) <<< (m9 &&& 31)) + (2 : Int32))) (ty := .int) (ws' := [(a, .inr (0, [.int m9, .int (m9 + (1 : Int32)), .int (((1 : Int32) <<< (m9 &&& 31)) + (2 : Int32)), .int f9]))]) C zu_NU ty_NU tyk_NU nm_NU 0 rfl rfl 2 (by decide) zw_49 rfl rfl (by decide +kernel) rfl rfl (Nat.le_of_ble_eq_true rfl) rfl d_NU_beginAnew_19 ?_
  refine zx_aload_n (pc := 22) C d_NU_beginAnew_22 rfl 0 rfl ?_
  refine zx_iconst (pc := 23) C d_NU_beginAnew_23 (v := (1 : Int32)) (by decide) ?_
  refine zx_put (pc := 24) (ci := 0) (Cn := R_NU) (T := T_NU) (N := 4) (v := .int (1 : Int32)) (ty := .boolean) (ws' := [(a, .inr (0, [.int m9, .int (m9 + (1 : Int32)), .int (((1 : Int32) <<< (m9 &&& 31)) + (2 : Int32)), .int (1 : Int32)]))]) C zu_NU ty_NU tyk_NU nm_NU 0 rfl rfl 3 (by decide) zw_52 rfl rfl (by decide +kernel) (by decide) (by decide) (Nat.le_of_ble_eq_true rfl) rfl d_NU_beginAnew_24 ?_
  exact zx_vret (pc := 27) C hr9 hlk9 hkc9 hks9 d_NU_beginAnew_27 (r27)

set_option maxRecDepth 100000 in
set_option maxHeartbeats 4000000 in
theorem sg_NU_beginning {p : Program} {l : Launch} {e : Env} {R : Room} {s : State} {m : MethodId} {args : Array Value} {below : List Frame} {meth : Method} {c : Code} {D : va_G} {cB cI cL : ClassId} {w0 : va_W} {post : Outcome → va_W → Prop} (C : zx_C p s m args c b_NU_beginning 1 R_NU zB D zcl (zt cB cI cL) (va_A w0 s.heap.size)) {a : Nat} {m9 b9 x9 f9 : Int32} (hr9 : meth.sig.returnType = some .int) (hlk9 : meth.locks = false) (hkc9 : 0 ≤ R.cells) (hks9 : 0 ≤ R.slots) (r6 : post (.returned (some (.int ((1 : Int32) <<< (m9 &&& 31))))) [(a, .inr (0, [.int m9, .int b9, .int x9, .int f9]))]) : zx_At p l e R s m args below meth c (zx_Q below s D zcl w0 R post) D zcl (va_A w0 s.heap.size) 1 [(0, .ref a)] [(a, .inr (0, [.int m9, .int b9, .int x9, .int f9]))] 0 0 0 [] := by
  refine zx_iconst (pc := 0) C d_NU_beginning_0 (v := (1 : Int32)) (by decide) ?_
  refine zx_aload_n (pc := 1) C d_NU_beginning_1 rfl 0 rfl ?_
  refine zx_get (pc := 2) (ci := 0) (Cn := R_NU) (T := T_NU) (N := 4) (v := .int m9) C zu_NU 0 rfl rfl 0 (by decide) zw_45 rfl rfl d_NU_beginning_2 ?_
  refine zx_ishl (pc := 5) C d_NU_beginning_5 ?_
  exact zx_iret (pc := 6) C hr9 hlk9 hkc9 hks9 d_NU_beginning_6 (r6)

set_option maxRecDepth 100000 in
set_option maxHeartbeats 4000000 in
theorem sg_NU_ending {p : Program} {l : Launch} {e : Env} {R : Room} {s : State} {m : MethodId} {args : Array Value} {below : List Frame} {meth : Method} {c : Code} {D : va_G} {cB cI cL : ClassId} {w0 : va_W} {post : Outcome → va_W → Prop} (C : zx_C p s m args c b_NU_ending 1 R_NU zB D zcl (zt cB cI cL) (va_A w0 s.heap.size)) {a : Nat} {m9 b9 x9 f9 : Int32} (hr9 : meth.sig.returnType = some .int) (hlk9 : meth.locks = false) (hkc9 : 0 ≤ R.cells) (hks9 : 0 ≤ R.slots) (r8 : post (.returned (some (.int (((1 : Int32) <<< (m9 &&& 31)) + (1 : Int32))))) [(a, .inr (0, [.int m9, .int b9, .int x9, .int f9]))]) : zx_At p l e R s m args below meth c (zx_Q below s D zcl w0 R post) D zcl (va_A w0 s.heap.size) 1 [(0, .ref a)] [(a, .inr (0, [.int m9, .int b9, .int x9, .int f9]))] 0 0 0 [] := by
  refine zx_iconst (pc := 0) C d_NU_ending_0 (v := (1 : Int32)) (by decide) ?_
  refine zx_aload_n (pc := 1) C d_NU_ending_1 rfl 0 rfl ?_
  refine zx_get (pc := 2) (ci := 0) (Cn := R_NU) (T := T_NU) (N := 4) (v := .int m9) C zu_NU 0 rfl rfl 0 (by decide) zw_45 rfl rfl d_NU_ending_2 ?_
  refine zx_ishl (pc := 5) C d_NU_ending_5 ?_
  refine zx_iconst (pc := 6) C d_NU_ending_6 (v := (1 : Int32)) (by decide) ?_
  refine zx_iadd (pc := 7) C d_NU_ending_7 ?_
  exact zx_iret (pc := 8) C hr9 hlk9 hkc9 hks9 d_NU_ending_8 (r8)

set_option maxRecDepth 100000 in
set_option maxHeartbeats 4000000 in
theorem sg_NU_isFull {p : Program} {l : Launch} {e : Env} {R : Room} {s : State} {m : MethodId} {args : Array Value} {below : List Frame} {meth : Method} {c : Code} {D : va_G} {cB cI cL : ClassId} {w0 : va_W} {post : Outcome → va_W → Prop} (C : zx_C p s m args c b_NU_isFull 1 R_NU zB D zcl (zt cB cI cL) (va_A w0 s.heap.size)) {a : Nat} {m9 b9 x9 f9 : Int32} (hr9 : meth.sig.returnType = some .boolean) (hlk9 : meth.locks = false) (hkc9 : 0 ≤ R.cells) (hks9 : 0 ≤ R.slots) (r15 : (x9 < (4096 : Int32)) → post (.returned (some (.int (0 : Int32)))) [(a, .inr (0, [.int m9, .int b9, .int x9, .int f9]))]) (r15_2 : (¬ x9 < (4096 : Int32)) → post (.returned (some (.int (1 : Int32)))) [(a, .inr (0, [.int m9, .int b9, .int x9, .int f9]))]) : zx_At p l e R s m args below meth c (zx_Q below s D zcl w0 R post) D zcl (va_A w0 s.heap.size) 1 [(0, .ref a)] [(a, .inr (0, [.int m9, .int b9, .int x9, .int f9]))] 0 0 0 [] := by
  refine zx_aload_n (pc := 0) C d_NU_isFull_0 rfl 0 rfl ?_
  refine zx_get (pc := 1) (ci := 0) (Cn := R_NU) (T := T_NU) (N := 4) (v := .int x9) C zu_NU 0 rfl rfl 2 (by decide) zw_49 rfl rfl d_NU_isFull_1 ?_
  refine zx_sipush (pc := 4) C d_NU_isFull_4 (v := (4096 : Int32)) (by decide) ?_
  refine zx_icmp_lt (pc := 7) C 14 d_NU_isFull_7 (by decide) (fun c7 => ?_) (fun c7 => ?_)
  · refine zx_iconst (pc := 14) C d_NU_isFull_14 (v := (0 : Int32)) (by decide) ?_
    exact zx_zret (pc := 15) C hr9 (Or.inl rfl) hlk9 hkc9 hks9 d_NU_isFull_15 (r15 c7)
  · refine zx_iconst (pc := 10) C d_NU_isFull_10 (v := (1 : Int32)) (by decide) ?_
    refine zx_goto (pc := 11) C 15 d_NU_isFull_11 (by decide) ?_
    exact zx_zret (pc := 15) C hr9 (Or.inr rfl) hlk9 hkc9 hks9 d_NU_isFull_15 (r15_2 c7)

set_option maxRecDepth 100000 in
set_option maxHeartbeats 4000000 in
theorem sg_NU_isIndex {p : Program} {l : Launch} {e : Env} {R : Room} {s : State} {m : MethodId} {args : Array Value} {below : List Frame} {meth : Method} {c : Code} {D : va_G} {cB cI cL : ClassId} {w0 : va_W} {post : Outcome → va_W → Prop} (C : zx_C p s m args c b_NU_isIndex 2 R_NU zB D zcl (zt cB cI cL) (va_A w0 s.heap.size)) {a : Nat} {m9 b9 x9 f9 : Int32} {c9 : Int32} (hr9 : meth.sig.returnType = some .boolean) (hlk9 : meth.locks = false) (hkc9 : 0 ≤ R.cells) (hks9 : 0 ≤ R.slots) (r15 : (((1 : Int32) <<< (m9 &&& 31)) ≤ c9) → post (.returned (some (.int (0 : Int32)))) [(a, .inr (0, [.int m9, .int b9, .int x9, .int f9]))]) (r15_2 : (¬ ((1 : Int32) <<< (m9 &&& 31)) ≤ c9) → post (.returned (some (.int (1 : Int32)))) [(a, .inr (0, [.int m9, .int b9, .int x9, .int f9]))]) : zx_At p l e R s m args below meth c (zx_Q below s D zcl w0 R post) D zcl (va_A w0 s.heap.size) 2 [(0, .ref a), (1, .int c9)] [(a, .inr (0, [.int m9, .int b9, .int x9, .int f9]))] 0 0 0 [] := by
  refine zx_iload_n (pc := 0) C d_NU_isIndex_0 rfl 1 rfl ?_
  refine zx_iconst (pc := 1) C d_NU_isIndex_1 (v := (1 : Int32)) (by decide) ?_
  refine zx_aload_n (pc := 2) C d_NU_isIndex_2 rfl 0 rfl ?_
  refine zx_get (pc := 3) (ci := 0) (Cn := R_NU) (T := T_NU) (N := 4) (v := .int m9) C zu_NU 0 rfl rfl 0 (by decide) zw_45 rfl rfl d_NU_isIndex_3 ?_
  refine zx_ishl (pc := 6) C d_NU_isIndex_6 ?_
  refine zx_icmp_ge (pc := 7) C 14 d_NU_isIndex_7 (by decide) (fun c7 => ?_) (fun c7 => ?_)
  · refine zx_iconst (pc := 14) C d_NU_isIndex_14 (v := (0 : Int32)) (by decide) ?_
    exact zx_zret (pc := 15) C hr9 (Or.inl rfl) hlk9 hkc9 hks9 d_NU_isIndex_15 (r15 c7)
  · refine zx_iconst (pc := 10) C d_NU_isIndex_10 (v := (1 : Int32)) (by decide) ?_
    refine zx_goto (pc := 11) C 15 d_NU_isIndex_11 (by decide) ?_
    exact zx_zret (pc := 15) C hr9 (Or.inr rfl) hlk9 hkc9 hks9 d_NU_isIndex_15 (r15_2 c7)

set_option maxRecDepth 100000 in
set_option maxHeartbeats 4000000 in
theorem sg_NU_startWith {p : Program} {l : Launch} {e : Env} {R : Room} {s : State} {m : MethodId} {args : Array Value} {below : List Frame} {meth : Method} {c : Code} {D : va_G} {cB cI cL : ClassId} {Q : State → Prop} {A : Nat → Prop} (C : zx_C p s m args c b_NU_startWith 2 R_NU zB D zcl (zt cB cI cL) A) {a : Nat} {m9 b9 x9 f9 : Int32} {c9 : Int32} (k6 : zx_At p l e R s m args below meth c Q D zcl A 2 [(0, .ref a), (1, .int c9)] [(a, .inr (0, [.int c9, .int b9, .int x9, .int f9]))] 0 0 6 [.ref a]) : zx_At p l e R s m args below meth c Q D zcl A 2 [(0, .ref a), (1, .int c9)] [(a, .inr (0, [.int m9, .int b9, .int x9, .int f9]))] 0 0 0 [] := by
  refine zx_aload_n (pc := 0) C d_NU_startWith_0 rfl 0 rfl ?_
  refine zx_iload_n (pc := 1) C d_NU_startWith_1 rfl 1 rfl ?_
  refine zx_put (pc := 2) (ci := 0) (Cn := R_NU) (T := T_NU) (N := 4) (v := .int c9) (ty := .int) (ws' := [(a, .inr (0, [.int c9, .int b9, .int x9, .int f9]))]) C zu_NU ty_NU tyk_NU nm_NU 0 rfl rfl 0 (by decide) zw_45 rfl rfl (by decide +kernel) rfl rfl (Nat.le_of_ble_eq_true rfl) rfl d_NU_startWith_2 ?_
  refine zx_aload_n (pc := 5) C d_NU_startWith_5 rfl 0 rfl ?_
  exact k6

set_option maxRecDepth 100000 in
set_option maxHeartbeats 4000000 in
theorem sg_NU_startWith2 {p : Program} {l : Launch} {e : Env} {R : Room} {s : State} {m : MethodId} {args : Array Value} {below : List Frame} {meth : Method} {c : Code} {D : va_G} {cB cI cL : ClassId} {w0 : va_W} {post : Outcome → va_W → Prop} (C : zx_C p s m args c b_NU_startWith 2 R_NU zB D zcl (zt cB cI cL) (va_A w0 s.heap.size)) {a : Nat} {m9 b9 x9 f9 : Int32} {c9 : Int32} (hr9 : meth.sig.returnType = none) (hlk9 : meth.locks = false) (hkc9 : 0 ≤ R.cells) (hks9 : 0 ≤ R.slots) (r9 : post (.returned none) [(a, .inr (0, [.int m9, .int b9, .int x9, .int f9]))]) : zx_At p l e R s m args below meth c (zx_Q below s D zcl w0 R post) D zcl (va_A w0 s.heap.size) 2 [(0, .ref a), (1, .int c9)] [(a, .inr (0, [.int m9, .int b9, .int x9, .int f9]))] 0 0 9 [] := by
  exact zx_vret (pc := 9) C hr9 hlk9 hkc9 hks9 d_NU_startWith_9 (r9)

