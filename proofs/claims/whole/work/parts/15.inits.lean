set_option maxRecDepth 100000 in
set_option maxHeartbeats 4000000 in
theorem sg_UN_init {p : Program} {l : Launch} {e : Env} {s : State} {mi : MethodId} {args : Array Value} {below : List Frame} {meth : Method} {co : Code} {D : va_G} {cB cI cL : ClassId} {w0 : va_W} {kr nr : Nat} {post : Outcome → va_W → Prop} (C : zx_C p s mi args co b_UN_init 1 R_UN zB D zcl (zt cB cI cL) (va_A w0 s.heap.size)) {a : Nat} (hr9 : meth.sig.returnType = none) (hlk9 : meth.locks = false) (hkr9 : 4 ≤ kr) (hnr9 : 8196 ≤ nr) (hnm9 : meth.name = "<init>") (r55 : ∀ q5 : Nat, ∀ q19 : Nat, ∀ q28 : Nat, ∀ q35 : Nat, post (.returned none) [(a, .inr (2, [.ref q5, .ref q19, .ref q28, .ref q35, .int (0 : Int32), .int (0 : Int32), .int (0 : Int32)])), (q5, .inr (0, [.int (0 : Int32), .int (0 : Int32), .int (0 : Int32), .int (0 : Int32)])), (q19, .inl (cI, 4096, .inl (fun _ => 0))), (q28, .inl (cI, 4096, .inl (fun _ => 0))), (q35, .inl (cB, 0, .inl (fun _ => 0)))]) : zx_At p l e (zr 2 4 8196) s mi args below meth co (zx_Q below s D zcl w0 kr nr (zr 2 4 8196) post) D zcl (va_A w0 s.heap.size) 1 [(0, .ref a)] [(a, .inr (2, [.null, .null, .null, .null, .int (0 : Int32), .int (0 : Int32), .int (0 : Int32)]))] 0 0 0 [] := by
  refine zx_aload_n (pc := 0) C d_UN_init_0 rfl 0 rfl ?_
  refine zx_objInit (pc := 1) C zw_38 zw_31 zw_32 d_UN_init_1 (Nat.le_of_ble_eq_true rfl) (Nat.le_of_ble_eq_true rfl) ?_
  refine zx_aload_n (pc := 4) C d_UN_init_4 rfl 0 rfl ?_
  refine zx_new (pc := 5) (ci := 0) (Cn := R_NU) (T := T_NU) (N := 4) (fs := [.int (0 : Int32), .int (0 : Int32), .int (0 : Int32), .int (0 : Int32)]) C zu_NU ty_NU tyk_NU zw_39 zw_40 zw_3 rfl (zd_NU) (Nat.le_of_ble_eq_true rfl) (Nat.le_of_ble_eq_true rfl) d_UN_init_5 (fun q5 => ?_)
  show zx_At p l e (zr 2 4 8196) s mi args below meth co (zx_Q below s D zcl w0 kr nr (zr 2 4 8196) post) D zcl (va_A w0 s.heap.size) 1 [(0, .ref a)] [(a, .inr (2, [.null, .null, .null, .null, .int (0 : Int32), .int (0 : Int32), .int (0 : Int32)])), (q5, .inr (0, [.int (0 : Int32), .int (0 : Int32), .int (0 : Int32), .int (0 : Int32)]))] 1 4 8 [.ref q5, .ref a]
  refine zx_dup (pc := 8) C d_UN_init_8 rfl ?_
  refine zx_callIN (hs := []) (ret := none) (pc := 9) (ix := 11) (As := []) (b := q5) (wr := [(a, .inr (2, [.null, .null, .null, .null, .int (0 : Int32), .int (0 : Int32), .int (0 : Int32)]))]) (st := [.ref q5, .ref a]) C (by decide +kernel) ⟨by decide +kernel, by decide +kernel⟩ zw_43 rfl zw_42 zw_41 rfl rfl (k_NU_init l D cB cI cL q5 0 0 0 0) rfl [1] [0] rfl rfl (by decide) (by decide) (by decide) (Nat.le_of_ble_eq_true rfl) (Nat.le_of_ble_eq_true rfl) (Nat.le_of_ble_eq_true rfl) (Nat.le_of_ble_eq_true rfl) d_UN_init_9 (fun o w1 hp => ?_)
  obtain ⟨rfl, rfl⟩ := hp
  refine zx_rv (k2 := 1) (n2 := 4) rfl rfl ?_
  refine zx_ws (ws' := [(a, .inr (2, [.null, .null, .null, .null, .int (0 : Int32), .int (0 : Int32), .int (0 : Int32)])), (q5, .inr (0, [.int (0 : Int32), .int (0 : Int32), .int (0 : Int32), .int (0 : Int32)]))]) [0, 1] (by decide) rfl ?_
  refine zx_putF (pc := 12) (ci := 2) (Cn := R_UN) (T := T_UN) (N := 7) (v := .ref q5) (ty := .object "LzwBox$Numbering") (ws' := [(a, .inr (2, [.ref q5, .null, .null, .null, .int (0 : Int32), .int (0 : Int32), .int (0 : Int32)])), (q5, .inr (0, [.int (0 : Int32), .int (0 : Int32), .int (0 : Int32), .int (0 : Int32)]))]) C zu_UN ty_UN tyk_UN nm_UN 0 rfl rfl 0 (by decide) zw_63 rfl rfl hnm9 rfl (by decide +kernel) rfl rfl (Nat.le_of_ble_eq_true rfl) rfl d_UN_init_12 ?_
  refine zx_aload_n (pc := 15) C d_UN_init_15 rfl 0 rfl ?_
  refine zx_sipush (pc := 16) C d_UN_init_16 (v := (4096 : Int32)) (by decide) ?_
  refine zx_newa (pc := 19) (ty := .int) (N := 4096) (a0 := (4096, .inl (fun _ => 0))) C rfl (by simp) zw_85 1 rfl (fun _ => rfl) (by decide) (by decide) (by decide) (Nat.le_of_ble_eq_true rfl) (Nat.le_of_ble_eq_true rfl) d_UN_init_19 (fun q19 => ?_)
  show zx_At p l e (zr 2 4 8196) s mi args below meth co (zx_Q below s D zcl w0 kr nr (zr 2 4 8196) post) D zcl (va_A w0 s.heap.size) 1 [(0, .ref a)] [(a, .inr (2, [.ref q5, .null, .null, .null, .int (0 : Int32), .int (0 : Int32), .int (0 : Int32)])), (q5, .inr (0, [.int (0 : Int32), .int (0 : Int32), .int (0 : Int32), .int (0 : Int32)])), (q19, .inl (cI, 4096, .inl (fun _ => 0)))] 2 4100 21 [.ref q19, .ref a]
  refine zx_putF (pc := 21) (ci := 2) (Cn := R_UN) (T := T_UN) (N := 7) (v := .ref q19) (ty := .array .int) (ws' := [(a, .inr (2, [.ref q5, .ref q19, .null, .null, .int (0 : Int32), .int (0 : Int32), .int (0 : Int32)])), (q5, .inr (0, [.int (0 : Int32), .int (0 : Int32), .int (0 : Int32), .int (0 : Int32)])), (q19, .inl (cI, 4096, .inl (fun _ => 0)))]) C zu_UN ty_UN tyk_UN nm_UN 0 rfl rfl 1 (by decide) zw_64 rfl rfl hnm9 rfl (by decide +kernel) rfl rfl (Nat.le_of_ble_eq_true rfl) rfl d_UN_init_21 ?_
  refine zx_aload_n (pc := 24) C d_UN_init_24 rfl 0 rfl ?_
  refine zx_sipush (pc := 25) C d_UN_init_25 (v := (4096 : Int32)) (by decide) ?_
  refine zx_newa (pc := 28) (ty := .int) (N := 4096) (a0 := (4096, .inl (fun _ => 0))) C rfl (by simp) zw_85 1 rfl (fun _ => rfl) (by decide) (by decide) (by decide) (Nat.le_of_ble_eq_true rfl) (Nat.le_of_ble_eq_true rfl) d_UN_init_28 (fun q28 => ?_)
  show zx_At p l e (zr 2 4 8196) s mi args below meth co (zx_Q below s D zcl w0 kr nr (zr 2 4 8196) post) D zcl (va_A w0 s.heap.size) 1 [(0, .ref a)] [(a, .inr (2, [.ref q5, .ref q19, .null, .null, .int (0 : Int32), .int (0 : Int32), .int (0 : Int32)])), (q5, .inr (0, [.int (0 : Int32), .int (0 : Int32), .int (0 : Int32), .int (0 : Int32)])), (q19, .inl (cI, 4096, .inl (fun _ => 0))), (q28, .inl (cI, 4096, .inl (fun _ => 0)))] 3 8196 30 [.ref q28, .ref a]
  refine zx_putF (pc := 30) (ci := 2) (Cn := R_UN) (T := T_UN) (N := 7) (v := .ref q28) (ty := .array .int) (ws' := [(a, .inr (2, [.ref q5, .ref q19, .ref q28, .null, .int (0 : Int32), .int (0 : Int32), .int (0 : Int32)])), (q5, .inr (0, [.int (0 : Int32), .int (0 : Int32), .int (0 : Int32), .int (0 : Int32)])), (q19, .inl (cI, 4096, .inl (fun _ => 0))), (q28, .inl (cI, 4096, .inl (fun _ => 0)))]) C zu_UN ty_UN tyk_UN nm_UN 0 rfl rfl 2 (by decide) zw_65 rfl rfl hnm9 rfl (by decide +kernel) rfl rfl (Nat.le_of_ble_eq_true rfl) rfl d_UN_init_30 ?_
  refine zx_aload_n (pc := 33) C d_UN_init_33 rfl 0 rfl ?_
  refine zx_iconst (pc := 34) C d_UN_init_34 (v := (0 : Int32)) (by decide) ?_
  refine zx_newa (pc := 35) (ty := .byte) (N := 0) (a0 := (0, .inl (fun _ => 0))) C rfl (by simp) zw_62 0 rfl (fun _ => rfl) (by decide) (by decide) (by decide) (Nat.le_of_ble_eq_true rfl) (Nat.le_of_ble_eq_true rfl) d_UN_init_35 (fun q35 => ?_)
  show zx_At p l e (zr 2 4 8196) s mi args below meth co (zx_Q below s D zcl w0 kr nr (zr 2 4 8196) post) D zcl (va_A w0 s.heap.size) 1 [(0, .ref a)] [(a, .inr (2, [.ref q5, .ref q19, .ref q28, .null, .int (0 : Int32), .int (0 : Int32), .int (0 : Int32)])), (q5, .inr (0, [.int (0 : Int32), .int (0 : Int32), .int (0 : Int32), .int (0 : Int32)])), (q19, .inl (cI, 4096, .inl (fun _ => 0))), (q28, .inl (cI, 4096, .inl (fun _ => 0))), (q35, .inl (cB, 0, .inl (fun _ => 0)))] 4 8196 37 [.ref q35, .ref a]
  refine zx_put (pc := 37) (ci := 2) (Cn := R_UN) (T := T_UN) (N := 7) (v := .ref q35) (ty := .array .byte) (ws' := [(a, .inr (2, [.ref q5, .ref q19, .ref q28, .ref q35, .int (0 : Int32), .int (0 : Int32), .int (0 : Int32)])), (q5, .inr (0, [.int (0 : Int32), .int (0 : Int32), .int (0 : Int32), .int (0 : Int32)])), (q19, .inl (cI, 4096, .inl (fun _ => 0))), (q28, .inl (cI, 4096, .inl (fun _ => 0))), (q35, .inl (cB, 0, .inl (fun _ => 0)))]) C zu_UN ty_UN tyk_UN nm_UN 0 rfl rfl 3 (by decide) zw_66 rfl rfl (by decide +kernel) rfl rfl (Nat.le_of_ble_eq_true rfl) rfl d_UN_init_37 ?_
  refine zx_aload_n (pc := 40) C d_UN_init_40 rfl 0 rfl ?_
  refine zx_iconst (pc := 41) C d_UN_init_41 (v := (0 : Int32)) (by decide) ?_
  refine zx_put (pc := 42) (ci := 2) (Cn := R_UN) (T := T_UN) (N := 7) (v := .int (0 : Int32)) (ty := .int) (ws' := [(a, .inr (2, [.ref q5, .ref q19, .ref q28, .ref q35, .int (0 : Int32), .int (0 : Int32), .int (0 : Int32)])), (q5, .inr (0, [.int (0 : Int32), .int (0 : Int32), .int (0 : Int32), .int (0 : Int32)])), (q19, .inl (cI, 4096, .inl (fun _ => 0))), (q28, .inl (cI, 4096, .inl (fun _ => 0))), (q35, .inl (cB, 0, .inl (fun _ => 0)))]) C zu_UN ty_UN tyk_UN nm_UN 0 rfl rfl 4 (by decide) zw_67 rfl rfl (by decide +kernel) rfl rfl (Nat.le_of_ble_eq_true rfl) rfl d_UN_init_42 ?_
  refine zx_aload_n (pc := 45) C d_UN_init_45 rfl 0 rfl ?_
  refine zx_iconst (pc := 46) C d_UN_init_46 (v := (0 : Int32)) (by decide) ?_
  refine zx_put (pc := 47) (ci := 2) (Cn := R_UN) (T := T_UN) (N := 7) (v := .int (0 : Int32)) (ty := .int) (ws' := [(a, .inr (2, [.ref q5, .ref q19, .ref q28, .ref q35, .int (0 : Int32), .int (0 : Int32), .int (0 : Int32)])), (q5, .inr (0, [.int (0 : Int32), .int (0 : Int32), .int (0 : Int32), .int (0 : Int32)])), (q19, .inl (cI, 4096, .inl (fun _ => 0))), (q28, .inl (cI, 4096, .inl (fun _ => 0))), (q35, .inl (cB, 0, .inl (fun _ => 0)))]) C zu_UN ty_UN tyk_UN nm_UN 0 rfl rfl 5 (by decide) zw_68 rfl rfl (by decide +kernel) rfl rfl (Nat.le_of_ble_eq_true rfl) rfl d_UN_init_47 ?_
  refine zx_aload_n (pc := 50) C d_UN_init_50 rfl 0 rfl ?_
  refine zx_iconst (pc := 51) C d_UN_init_51 (v := (0 : Int32)) (by decide) ?_
  refine zx_put (pc := 52) (ci := 2) (Cn := R_UN) (T := T_UN) (N := 7) (v := .int (0 : Int32)) (ty := .int) (ws' := [(a, .inr (2, [.ref q5, .ref q19, .ref q28, .ref q35, .int (0 : Int32), .int (0 : Int32), .int (0 : Int32)])), (q5, .inr (0, [.int (0 : Int32), .int (0 : Int32), .int (0 : Int32), .int (0 : Int32)])), (q19, .inl (cI, 4096, .inl (fun _ => 0))), (q28, .inl (cI, 4096, .inl (fun _ => 0))), (q35, .inl (cB, 0, .inl (fun _ => 0)))]) C zu_UN ty_UN tyk_UN nm_UN 0 rfl rfl 6 (by decide) zw_69 rfl rfl (by decide +kernel) rfl rfl (Nat.le_of_ble_eq_true rfl) rfl d_UN_init_52 ?_
  exact zx_vret (pc := 55) C hr9 hlk9 (Nat.le_trans (Nat.le_of_ble_eq_true rfl) hkr9) (Nat.le_trans (Nat.le_of_ble_eq_true rfl) hnr9) d_UN_init_55 (r55 q5 q19 q28 q35)

/-- Unpacker(): its rows and its numbering -/
theorem k_UN_init (l : Launch) (D : va_G) (cB cI cL : ClassId) (a : Nat) : zx_K l zB D zcl (zt cB cI cL) y_UN_init b_UN_init 1 (none) [] 4 8196 (zr 2 4 8196) [.ref a] [(a, .inr (2, [.null, .null, .null, .null, .int (0 : Int32), .int (0 : Int32), .int (0 : Int32)]))] (fun o w => ∃ na sa la ia : Nat, o = .returned none ∧ w = [(a, .inr (2, [.ref na, .ref sa, .ref la, .ref ia, .int 0, .int 0, .int 0])), (na, .inr (0, [.int 0, .int 0, .int 0, .int 0])), (sa, .inl (cI, 4096, .inl (zf (fun _ => 0)))), (la, .inl (cI, 4096, .inl (zf (fun _ => 0)))), (ia, .inl (cB, 0, .inl (fun _ => 0)))]) := by
  refine zx_K.mk (Nat.le_of_ble_eq_true rfl) (fun p e s mm below meth c9 C hr hlk ht hnm => ?_)
  exact sg_UN_init C hr hlk (Nat.le_refl _) (Nat.le_refl _) hnm (fun na sa la ia => ⟨na, sa, la, ia, rfl, rfl⟩)
set_option maxRecDepth 100000 in
set_option maxHeartbeats 4000000 in
theorem sg_PK_init {p : Program} {l : Launch} {e : Env} {s : State} {mi : MethodId} {args : Array Value} {below : List Frame} {meth : Method} {co : Code} {D : va_G} {cB cI cL : ClassId} {w0 : va_W} {kr nr : Nat} {post : Outcome → va_W → Prop} (C : zx_C p s mi args co b_PK_init 1 R_PK zB D zcl (zt cB cI cL) (va_A w0 s.heap.size)) {a : Nat} (hr9 : meth.sig.returnType = none) (hlk9 : meth.locks = false) (hkr9 : 6 ≤ kr) (hnr9 : 12296 ≤ nr) (hnm9 : meth.name = "<init>") (r53 : ∀ q5 : Nat, ∀ q16 : Nat, ∀ qb : Nat, ∀ q30 : Nat, ∀ q39 : Nat, ∀ q48 : Nat, post (.returned none) [(a, .inr (3, [.ref q5, .ref q16, .ref q30, .ref q39, .ref q48])), (q5, .inr (0, [.int (0 : Int32), .int (0 : Int32), .int (0 : Int32), .int (0 : Int32)])), (q16, .inr (1, [.ref qb, .int (0 : Int32), .int (0 : Int32), .int (0 : Int32)])), (qb, .inl (cB, 0, .inl (fun _ => 0))), (q30, .inl (cI, 4096, .inl (fun _ => 0))), (q39, .inl (cI, 4096, .inl (fun _ => 0))), (q48, .inl (cI, 4096, .inl (fun _ => 0)))]) : zx_At p l e (zr 2 6 12296) s mi args below meth co (zx_Q below s D zcl w0 kr nr (zr 2 6 12296) post) D zcl (va_A w0 s.heap.size) 1 [(0, .ref a)] [(a, .inr (3, [.null, .null, .null, .null, .null]))] 0 0 0 [] := by
  refine zx_aload_n (pc := 0) C d_PK_init_0 rfl 0 rfl ?_
  refine zx_objInit (pc := 1) C zw_91 zw_31 zw_32 d_PK_init_1 (Nat.le_of_ble_eq_true rfl) (Nat.le_of_ble_eq_true rfl) ?_
  refine zx_aload_n (pc := 4) C d_PK_init_4 rfl 0 rfl ?_
  refine zx_new (pc := 5) (ci := 0) (Cn := R_NU) (T := T_NU) (N := 4) (fs := [.int (0 : Int32), .int (0 : Int32), .int (0 : Int32), .int (0 : Int32)]) C zu_NU ty_NU tyk_NU zw_92 zw_40 zw_3 rfl (zd_NU) (Nat.le_of_ble_eq_true rfl) (Nat.le_of_ble_eq_true rfl) d_PK_init_5 (fun q5 => ?_)
  show zx_At p l e (zr 2 6 12296) s mi args below meth co (zx_Q below s D zcl w0 kr nr (zr 2 6 12296) post) D zcl (va_A w0 s.heap.size) 1 [(0, .ref a)] [(a, .inr (3, [.null, .null, .null, .null, .null])), (q5, .inr (0, [.int (0 : Int32), .int (0 : Int32), .int (0 : Int32), .int (0 : Int32)]))] 1 4 8 [.ref q5, .ref a]
  refine zx_dup (pc := 8) C d_PK_init_8 rfl ?_
  refine zx_callIN (hs := []) (ret := none) (pc := 9) (ix := 11) (As := []) (b := q5) (wr := [(a, .inr (3, [.null, .null, .null, .null, .null]))]) (st := [.ref q5, .ref a]) C (by decide +kernel) ⟨by decide +kernel, by decide +kernel⟩ zw_43 rfl zw_42 zw_93 rfl rfl (k_NU_init l D cB cI cL q5 0 0 0 0) rfl [1] [0] rfl rfl (by decide) (by decide) (by decide) (Nat.le_of_ble_eq_true rfl) (Nat.le_of_ble_eq_true rfl) (Nat.le_of_ble_eq_true rfl) (Nat.le_of_ble_eq_true rfl) d_PK_init_9 (fun o w1 hp => ?_)
  obtain ⟨rfl, rfl⟩ := hp
  refine zx_rv (k2 := 1) (n2 := 4) rfl rfl ?_
  refine zx_ws (ws' := [(a, .inr (3, [.null, .null, .null, .null, .null])), (q5, .inr (0, [.int (0 : Int32), .int (0 : Int32), .int (0 : Int32), .int (0 : Int32)]))]) [0, 1] (by decide) rfl ?_
  refine zx_putF (pc := 12) (ci := 3) (Cn := R_PK) (T := T_PK) (N := 5) (v := .ref q5) (ty := .object "LzwBox$Numbering") (ws' := [(a, .inr (3, [.ref q5, .null, .null, .null, .null])), (q5, .inr (0, [.int (0 : Int32), .int (0 : Int32), .int (0 : Int32), .int (0 : Int32)]))]) C zu_PK ty_PK tyk_PK nm_PK 0 rfl rfl 0 (by decide) zw_113 rfl rfl hnm9 rfl (by decide +kernel) rfl rfl (Nat.le_of_ble_eq_true rfl) rfl d_PK_init_12 ?_
  refine zx_aload_n (pc := 15) C d_PK_init_15 rfl 0 rfl ?_
  refine zx_new (pc := 16) (ci := 1) (Cn := R_BS) (T := T_BS) (N := 4) (fs := [.null, .int (0 : Int32), .int (0 : Int32), .int (0 : Int32)]) C zu_BS ty_BS tyk_BS zw_94 zw_95 zw_5 rfl (zd_BS) (Nat.le_of_ble_eq_true rfl) (Nat.le_of_ble_eq_true rfl) d_PK_init_16 (fun q16 => ?_)
  show zx_At p l e (zr 2 6 12296) s mi args below meth co (zx_Q below s D zcl w0 kr nr (zr 2 6 12296) post) D zcl (va_A w0 s.heap.size) 1 [(0, .ref a)] [(a, .inr (3, [.ref q5, .null, .null, .null, .null])), (q5, .inr (0, [.int (0 : Int32), .int (0 : Int32), .int (0 : Int32), .int (0 : Int32)])), (q16, .inr (1, [.null, .int (0 : Int32), .int (0 : Int32), .int (0 : Int32)]))] 2 8 19 [.ref q16, .ref a]
  refine zx_dup (pc := 19) C d_PK_init_19 rfl ?_
  refine zx_callI (hs := []) (ret := none) (pc := 20) (ix := 20) (As := []) (b := q16) (wr := [(a, .inr (3, [.ref q5, .null, .null, .null, .null])), (q5, .inr (0, [.int (0 : Int32), .int (0 : Int32), .int (0 : Int32), .int (0 : Int32)]))]) (st := [.ref q16, .ref a]) C (by decide +kernel) ⟨by decide +kernel, by decide +kernel⟩ zw_98 rfl zw_97 zw_96 rfl rfl (k_BS_init l D cB cI cL q16 0 0 0) rfl [2] [0, 1] rfl rfl (by decide) (by decide) (by decide) (Nat.le_of_ble_eq_true rfl) (Nat.le_of_ble_eq_true rfl) (Nat.le_of_ble_eq_true rfl) (Nat.le_of_ble_eq_true rfl) d_PK_init_20 (fun o w1 hp => ?_)
  obtain ⟨qb, rfl, rfl⟩ := hp
  refine zx_rv (k2 := 3) (n2 := 8) rfl rfl ?_
  refine zx_ws (ws' := [(a, .inr (3, [.ref q5, .null, .null, .null, .null])), (q5, .inr (0, [.int (0 : Int32), .int (0 : Int32), .int (0 : Int32), .int (0 : Int32)])), (q16, .inr (1, [.ref qb, .int (0 : Int32), .int (0 : Int32), .int (0 : Int32)])), (qb, .inl (cB, 0, .inl (fun _ => 0)))]) [0, 1, 2, 3] (by decide) rfl ?_
  refine zx_putF (pc := 23) (ci := 3) (Cn := R_PK) (T := T_PK) (N := 5) (v := .ref q16) (ty := .object "LzwBox$BitSink") (ws' := [(a, .inr (3, [.ref q5, .ref q16, .null, .null, .null])), (q5, .inr (0, [.int (0 : Int32), .int (0 : Int32), .int (0 : Int32), .int (0 : Int32)])), (q16, .inr (1, [.ref qb, .int (0 : Int32), .int (0 : Int32), .int (0 : Int32)])), (qb, .inl (cB, 0, .inl (fun _ => 0)))]) C zu_PK ty_PK tyk_PK nm_PK 0 rfl rfl 1 (by decide) zw_114 rfl rfl hnm9 rfl (by decide +kernel) rfl rfl (Nat.le_of_ble_eq_true rfl) rfl d_PK_init_23 ?_
  refine zx_aload_n (pc := 26) C d_PK_init_26 rfl 0 rfl ?_
  refine zx_sipush (pc := 27) C d_PK_init_27 (v := (4096 : Int32)) (by decide) ?_
  refine zx_newa (pc := 30) (ty := .int) (N := 4096) (a0 := (4096, .inl (fun _ => 0))) C rfl (by simp) zw_85 1 rfl (fun _ => rfl) (by decide) (by decide) (by decide) (Nat.le_of_ble_eq_true rfl) (Nat.le_of_ble_eq_true rfl) d_PK_init_30 (fun q30 => ?_)
  show zx_At p l e (zr 2 6 12296) s mi args below meth co (zx_Q below s D zcl w0 kr nr (zr 2 6 12296) post) D zcl (va_A w0 s.heap.size) 1 [(0, .ref a)] [(a, .inr (3, [.ref q5, .ref q16, .null, .null, .null])), (q5, .inr (0, [.int (0 : Int32), .int (0 : Int32), .int (0 : Int32), .int (0 : Int32)])), (q16, .inr (1, [.ref qb, .int (0 : Int32), .int (0 : Int32), .int (0 : Int32)])), (qb, .inl (cB, 0, .inl (fun _ => 0))), (q30, .inl (cI, 4096, .inl (fun _ => 0)))] 4 4104 32 [.ref q30, .ref a]
  refine zx_putF (pc := 32) (ci := 3) (Cn := R_PK) (T := T_PK) (N := 5) (v := .ref q30) (ty := .array .int) (ws' := [(a, .inr (3, [.ref q5, .ref q16, .ref q30, .null, .null])), (q5, .inr (0, [.int (0 : Int32), .int (0 : Int32), .int (0 : Int32), .int (0 : Int32)])), (q16, .inr (1, [.ref qb, .int (0 : Int32), .int (0 : Int32), .int (0 : Int32)])), (qb, .inl (cB, 0, .inl (fun _ => 0))), (q30, .inl (cI, 4096, .inl (fun _ => 0)))]) C zu_PK ty_PK tyk_PK nm_PK 0 rfl rfl 2 (by decide) zw_115 rfl rfl hnm9 rfl (by decide +kernel) rfl rfl (Nat.le_of_ble_eq_true rfl) rfl d_PK_init_32 ?_
  refine zx_aload_n (pc := 35) C d_PK_init_35 rfl 0 rfl ?_
  refine zx_sipush (pc := 36) C d_PK_init_36 (v := (4096 : Int32)) (by decide) ?_
  refine zx_newa (pc := 39) (ty := .int) (N := 4096) (a0 := (4096, .inl (fun _ => 0))) C rfl (by simp) zw_85 1 rfl (fun _ => rfl) (by decide) (by decide) (by decide) (Nat.le_of_ble_eq_true rfl) (Nat.le_of_ble_eq_true rfl) d_PK_init_39 (fun q39 => ?_)
  show zx_At p l e (zr 2 6 12296) s mi args below meth co (zx_Q below s D zcl w0 kr nr (zr 2 6 12296) post) D zcl (va_A w0 s.heap.size) 1 [(0, .ref a)] [(a, .inr (3, [.ref q5, .ref q16, .ref q30, .null, .null])), (q5, .inr (0, [.int (0 : Int32), .int (0 : Int32), .int (0 : Int32), .int (0 : Int32)])), (q16, .inr (1, [.ref qb, .int (0 : Int32), .int (0 : Int32), .int (0 : Int32)])), (qb, .inl (cB, 0, .inl (fun _ => 0))), (q30, .inl (cI, 4096, .inl (fun _ => 0))), (q39, .inl (cI, 4096, .inl (fun _ => 0)))] 5 8200 41 [.ref q39, .ref a]
  refine zx_putF (pc := 41) (ci := 3) (Cn := R_PK) (T := T_PK) (N := 5) (v := .ref q39) (ty := .array .int) (ws' := [(a, .inr (3, [.ref q5, .ref q16, .ref q30, .ref q39, .null])), (q5, .inr (0, [.int (0 : Int32), .int (0 : Int32), .int (0 : Int32), .int (0 : Int32)])), (q16, .inr (1, [.ref qb, .int (0 : Int32), .int (0 : Int32), .int (0 : Int32)])), (qb, .inl (cB, 0, .inl (fun _ => 0))), (q30, .inl (cI, 4096, .inl (fun _ => 0))), (q39, .inl (cI, 4096, .inl (fun _ => 0)))]) C zu_PK ty_PK tyk_PK nm_PK 0 rfl rfl 3 (by decide) zw_116 rfl rfl hnm9 rfl (by decide +kernel) rfl rfl (Nat.le_of_ble_eq_true rfl) rfl d_PK_init_41 ?_
  refine zx_aload_n (pc := 44) C d_PK_init_44 rfl 0 rfl ?_
  refine zx_sipush (pc := 45) C d_PK_init_45 (v := (4096 : Int32)) (by decide) ?_
  refine zx_newa (pc := 48) (ty := .int) (N := 4096) (a0 := (4096, .inl (fun _ => 0))) C rfl (by simp) zw_85 1 rfl (fun _ => rfl) (by decide) (by decide) (by decide) (Nat.le_of_ble_eq_true rfl) (Nat.le_of_ble_eq_true rfl) d_PK_init_48 (fun q48 => ?_)
  show zx_At p l e (zr 2 6 12296) s mi args below meth co (zx_Q below s D zcl w0 kr nr (zr 2 6 12296) post) D zcl (va_A w0 s.heap.size) 1 [(0, .ref a)] [(a, .inr (3, [.ref q5, .ref q16, .ref q30, .ref q39, .null])), (q5, .inr (0, [.int (0 : Int32), .int (0 : Int32), .int (0 : Int32), .int (0 : Int32)])), (q16, .inr (1, [.ref qb, .int (0 : Int32), .int (0 : Int32), .int (0 : Int32)])), (qb, .inl (cB, 0, .inl (fun _ => 0))), (q30, .inl (cI, 4096, .inl (fun _ => 0))), (q39, .inl (cI, 4096, .inl (fun _ => 0))), (q48, .inl (cI, 4096, .inl (fun _ => 0)))] 6 12296 50 [.ref q48, .ref a]
  refine zx_putF (pc := 50) (ci := 3) (Cn := R_PK) (T := T_PK) (N := 5) (v := .ref q48) (ty := .array .int) (ws' := [(a, .inr (3, [.ref q5, .ref q16, .ref q30, .ref q39, .ref q48])), (q5, .inr (0, [.int (0 : Int32), .int (0 : Int32), .int (0 : Int32), .int (0 : Int32)])), (q16, .inr (1, [.ref qb, .int (0 : Int32), .int (0 : Int32), .int (0 : Int32)])), (qb, .inl (cB, 0, .inl (fun _ => 0))), (q30, .inl (cI, 4096, .inl (fun _ => 0))), (q39, .inl (cI, 4096, .inl (fun _ => 0))), (q48, .inl (cI, 4096, .inl (fun _ => 0)))]) C zu_PK ty_PK tyk_PK nm_PK 0 rfl rfl 4 (by decide) zw_117 rfl rfl hnm9 rfl (by decide +kernel) rfl rfl (Nat.le_of_ble_eq_true rfl) rfl d_PK_init_50 ?_
  exact zx_vret (pc := 53) C hr9 hlk9 (Nat.le_trans (Nat.le_of_ble_eq_true rfl) hkr9) (Nat.le_trans (Nat.le_of_ble_eq_true rfl) hnr9) d_PK_init_53 (r53 q5 q16 qb q30 q39 q48)

/-- Packer() -/
theorem k_PK_init (l : Launch) (D : va_G) (cB cI cL : ClassId) (a : Nat) : zx_K l zB D zcl (zt cB cI cL) y_PK_init b_PK_init 1 (none) [] 6 12296 (zr 2 6 12296) [.ref a] [(a, .inr (3, [.null, .null, .null, .null, .null]))] (fun o w => ∃ na ka qb fa sa la : Nat, o = .returned none ∧ w = [(a, .inr (3, [.ref na, .ref ka, .ref fa, .ref sa, .ref la])), (na, .inr (0, [.int 0, .int 0, .int 0, .int 0])), (ka, .inr (1, [.ref qb, .int 0, .int 0, .int 0])), (qb, .inl (cB, 0, .inl (fun _ => 0))), (fa, .inl (cI, 4096, .inl (zf (fun _ => 0)))), (sa, .inl (cI, 4096, .inl (zf (fun _ => 0)))), (la, .inl (cI, 4096, .inl (zf (fun _ => 0))))]) := by
  refine zx_K.mk (Nat.le_of_ble_eq_true rfl) (fun p e s mm below meth c9 C hr hlk ht hnm => ?_)
  exact sg_PK_init C hr hlk (Nat.le_refl _) (Nat.le_refl _) hnm (fun na ka qb fa sa la => ⟨na, ka, qb, fa, sa, la, rfl, rfl⟩)
def R_AR : String := "java/util/Arrays"
abbrev b_AR_fill : ByteArray := prog_24_method_104_code
def y_AR_fill : MethodName := ⟨R_AR, "fill", "([IIII)V"⟩
abbrev b_AR_rangeCheck : ByteArray := prog_24_method_30_code
def y_AR_rangeCheck : MethodName := ⟨R_AR, "rangeCheck", "(III)V"⟩
theorem d_AR_rangeCheck_0 : decode b_AR_rangeCheck 0 = .ok (.iload_n 1, 1) := by decide +kernel
theorem d_AR_rangeCheck_1 : decode b_AR_rangeCheck 1 = .ok (.iload_n 2, 1) := by decide +kernel
theorem d_AR_rangeCheck_2 : decode b_AR_rangeCheck 2 = .ok (.if_icmp .le 44, 3) := by decide +kernel
theorem d_AR_rangeCheck_46 : decode b_AR_rangeCheck 46 = .ok (.iload_n 1, 1) := by decide +kernel
theorem d_AR_rangeCheck_47 : decode b_AR_rangeCheck 47 = .ok (.ifCond .ge 12, 3) := by decide +kernel
theorem d_AR_rangeCheck_59 : decode b_AR_rangeCheck 59 = .ok (.iload_n 2, 1) := by decide +kernel
theorem d_AR_rangeCheck_60 : decode b_AR_rangeCheck 60 = .ok (.iload_n 0, 1) := by decide +kernel
theorem d_AR_rangeCheck_61 : decode b_AR_rangeCheck 61 = .ok (.if_icmp .le 12, 3) := by decide +kernel
theorem d_AR_rangeCheck_73 : decode b_AR_rangeCheck 73 = .ok (.return_, 1) := by decide +kernel
theorem d_AR_fill_0 : decode b_AR_fill 0 = .ok (.aload_n 0, 1) := by decide +kernel
theorem d_AR_fill_1 : decode b_AR_fill 1 = .ok (.arraylength, 1) := by decide +kernel
theorem d_AR_fill_2 : decode b_AR_fill 2 = .ok (.iload_n 1, 1) := by decide +kernel
theorem d_AR_fill_3 : decode b_AR_fill 3 = .ok (.iload_n 2, 1) := by decide +kernel
theorem d_AR_fill_4 : decode b_AR_fill 4 = .ok (.invokestatic 13, 3) := by decide +kernel
theorem d_AR_fill_7 : decode b_AR_fill 7 = .ok (.iload_n 1, 1) := by decide +kernel
theorem d_AR_fill_8 : decode b_AR_fill 8 = .ok (.istore 4, 2) := by decide +kernel
theorem d_AR_fill_10 : decode b_AR_fill 10 = .ok (.iload 4, 2) := by decide +kernel
theorem d_AR_fill_12 : decode b_AR_fill 12 = .ok (.iload_n 2, 1) := by decide +kernel
theorem d_AR_fill_13 : decode b_AR_fill 13 = .ok (.if_icmp .ge 14, 3) := by decide +kernel
theorem d_AR_fill_16 : decode b_AR_fill 16 = .ok (.aload_n 0, 1) := by decide +kernel
theorem d_AR_fill_17 : decode b_AR_fill 17 = .ok (.iload 4, 2) := by decide +kernel
theorem d_AR_fill_19 : decode b_AR_fill 19 = .ok (.iload_n 3, 1) := by decide +kernel
theorem d_AR_fill_20 : decode b_AR_fill 20 = .ok (.iastore, 1) := by decide +kernel
theorem d_AR_fill_21 : decode b_AR_fill 21 = .ok (.iinc 4 1, 3) := by decide +kernel
theorem d_AR_fill_24 : decode b_AR_fill 24 = .ok (.goto (-14), 3) := by decide +kernel
theorem d_AR_fill_27 : decode b_AR_fill 27 = .ok (.return_, 1) := by decide +kernel
set_option maxRecDepth 100000 in
set_option maxHeartbeats 4000000 in
theorem sg_AR_range {p : Program} {l : Launch} {e : Env} {R : Room} {s : State} {mi : MethodId} {args : Array Value} {below : List Frame} {meth : Method} {co : Code} {D : va_G} {cB cI cL : ClassId} {w0 : va_W} {kr nr : Nat} {post : Outcome → va_W → Prop} (C : zx_C p s mi args co b_AR_rangeCheck 3 R_AR zB D zcl (zt cB cI cL) (va_A w0 s.heap.size)) {n i j : Nat} (hr9 : meth.sig.returnType = none) (hlk9 : meth.locks = false) (r73 : ((nI i) ≤ (nI j)) → (0 ≤ (nI i)) → ((nI j) ≤ (nI n)) → post (.returned none) []) (k64 : ((nI i) ≤ (nI j)) → (0 ≤ (nI i)) → (¬ (nI j) ≤ (nI n)) → zx_At p l e R s mi args below meth co (zx_Q below s D zcl w0 kr nr R post) D zcl (va_A w0 s.heap.size) 3 [(0, .int (nI n)), (1, .int (nI i)), (2, .int (nI j))] [] 0 0 64 []) (k50 : ((nI i) ≤ (nI j)) → (¬ 0 ≤ (nI i)) → zx_At p l e R s mi args below meth co (zx_Q below s D zcl w0 kr nr R post) D zcl (va_A w0 s.heap.size) 3 [(0, .int (nI n)), (1, .int (nI i)), (2, .int (nI j))] [] 0 0 50 []) (k5 : (¬ (nI i) ≤ (nI j)) → zx_At p l e R s mi args below meth co (zx_Q below s D zcl w0 kr nr R post) D zcl (va_A w0 s.heap.size) 3 [(0, .int (nI n)), (1, .int (nI i)), (2, .int (nI j))] [] 0 0 5 []) : zx_At p l e R s mi args below meth co (zx_Q below s D zcl w0 kr nr R post) D zcl (va_A w0 s.heap.size) 3 [(0, .int (nI n)), (1, .int (nI i)), (2, .int (nI j))] [] 0 0 0 [] := by
  refine zx_iload_n (pc := 0) C d_AR_rangeCheck_0 rfl 1 rfl ?_
  refine zx_iload_n (pc := 1) C d_AR_rangeCheck_1 rfl 2 rfl ?_
  refine zx_icmp_le (pc := 2) C 46 d_AR_rangeCheck_2 (by decide) (fun c2 => ?_) (fun c2 => ?_)
  · refine zx_iload_n (pc := 46) C d_AR_rangeCheck_46 rfl 1 rfl ?_
    refine zx_if_ge (pc := 47) C 59 d_AR_rangeCheck_47 (by decide) (fun c47 => ?_) (fun c47 => ?_)
    · refine zx_iload_n (pc := 59) C d_AR_rangeCheck_59 rfl 2 rfl ?_
      refine zx_iload_n (pc := 60) C d_AR_rangeCheck_60 rfl 0 rfl ?_
      refine zx_icmp_le (pc := 61) C 73 d_AR_rangeCheck_61 (by decide) (fun c61 => ?_) (fun c61 => ?_)
      · exact zx_vret (pc := 73) C hr9 hlk9 (Nat.zero_le _) (Nat.zero_le _) d_AR_rangeCheck_73 (r73 c2 c47 c61)
      · exact k64 c2 c47 c61
    · exact k50 c2 c47
  · exact k5 c2

theorem k_AR_rangeCheck (l : Launch) (D : va_G) (cB cI cL : ClassId) (R : Room) (n i j : Nat) (h1 : i ≤ j) (h2 : j ≤ n) (h3 : n < 2 ^ 31) : zx_K l zB D zcl (zt cB cI cL) y_AR_rangeCheck b_AR_rangeCheck 3 (none) [] 0 0 R [.int (nI n), .int (nI i), .int (nI j)] [] (fun o w => o = .returned none ∧ w = []) := by
  refine zx_K.mk (Nat.le_of_ble_eq_true rfl) (fun p e s mm below meth c9 C hr hlk ht hnm => ?_)
  have g1 : nI i ≤ nI j := (nI_leI (by omega) (by omega)).mpr h1
  have g2 : 0 ≤ nI i := nI_pos' (by omega)
  have g3 : nI j ≤ nI n := (nI_leI (by omega) (by omega)).mpr h2
  exact sg_AR_range C hr hlk (fun _ _ _ => ⟨rfl, rfl⟩) (fun _ _ z => absurd g3 z) (fun _ z => absurd g2 z) (fun z => absurd g1 z)
set_option maxRecDepth 100000 in
set_option maxHeartbeats 4000000 in
theorem sg_AR_fill {p : Program} {l : Launch} {e : Env} {s : State} {mi : MethodId} {args : Array Value} {below : List Frame} {meth : Method} {co : Code} {D : va_G} {cB cI cL : ClassId} {Q : State → Prop} {A : Nat → Prop} (C : zx_C p s mi args co b_AR_fill 5 R_AR zB D zcl (zt cB cI cL) A) {a i j : Nat} {v9 : Int32} {f : Nat → Int32} (h1 : i ≤ j) (h2 : j ≤ 4096) (k10 : zx_At p l e (zr 1 0 0) s mi args below meth co Q D zcl A 5 [(0, .ref a), (1, .int (nI i)), (2, .int (nI j)), (3, .int v9), (4, .int (nI i))] [(a, .inl (cI, 4096, .inl f))] 0 0 10 []) : zx_At p l e (zr 1 0 0) s mi args below meth co Q D zcl A 5 [(0, .ref a), (1, .int (nI i)), (2, .int (nI j)), (3, .int v9)] [(a, .inl (cI, 4096, .inl f))] 0 0 0 [] := by
  refine zx_aload_n (pc := 0) C d_AR_fill_0 rfl 0 rfl ?_
  refine zx_alen (pc := 1) C 0 1 rfl rfl (v := nI 4096) rfl d_AR_fill_1 ?_
  refine zx_iload_n (pc := 2) C d_AR_fill_2 rfl 1 rfl ?_
  refine zx_iload_n (pc := 3) C d_AR_fill_3 rfl 2 rfl ?_
  refine zx_callS (pc := 4) (ix := 13) (wr := [(a, .inl (cI, 4096, .inl f))]) (st := []) C (zx_cw.of (C.w zw_392)) (by decide +kernel) ⟨by decide +kernel, by decide +kernel⟩ zw_391 zw_14 zw_390 rfl (k_AR_rangeCheck l D cB cI cL (zr 0 0 0) 4096 i j h1 h2 (by decide)) rfl [] [0] rfl rfl (by decide) (by decide) (by decide) (Nat.le_of_ble_eq_true rfl) (Nat.le_of_ble_eq_true rfl) (Nat.le_of_ble_eq_true rfl) (Nat.le_of_ble_eq_true rfl) d_AR_fill_4 (fun o w1 hp => ?_)
  obtain ⟨rfl, rfl⟩ := hp
  refine zx_rv (k2 := 0) (n2 := 0) rfl rfl ?_
  refine zx_ws (ws' := [(a, .inl (cI, 4096, .inl f))]) [0] (by decide) rfl ?_
  refine zx_iload_n (pc := 7) C d_AR_fill_7 rfl 1 rfl ?_
  refine zx_istore (pc := 8) C d_AR_fill_8 (by decide) (lv' := [(4, .int (nI i)), (0, .ref a), (1, .int (nI i)), (2, .int (nI j)), (3, .int v9)]) rfl ?_
  refine zx_lv (lv' := [(0, .ref a), (1, .int (nI i)), (2, .int (nI j)), (3, .int v9), (4, .int (nI i))]) [1, 2, 3, 4, 0] rfl ?_
  exact k10

set_option maxRecDepth 100000 in
set_option maxHeartbeats 4000000 in
theorem sg_AR_fill10 {p : Program} {l : Launch} {e : Env} {s : State} {mi : MethodId} {args : Array Value} {below : List Frame} {meth : Method} {co : Code} {D : va_G} {cB cI cL : ClassId} {w0 : va_W} {kr nr : Nat} {post : Outcome → va_W → Prop} (C : zx_C p s mi args co b_AR_fill 5 R_AR zB D zcl (zt cB cI cL) (va_A w0 s.heap.size)) {a j k : Nat} {v9 i9 : Int32} {f : Nat → Int32} (hr9 : meth.sig.returnType = none) (hlk9 : meth.locks = false) (r27 : ((nI j) ≤ (nI k)) → post (.returned none) [(a, .inl (cI, 4096, .inl f))]) (b20 : (¬ (nI j) ≤ (nI k)) → (nI k) = nI k ∧ k < 4096) (e21 : (¬ (nI j) ≤ (nI k)) → (nI k) + (1 : Int32) = (nI (k + 1))) (k10 : (¬ (nI j) ≤ (nI k)) → zx_At p l e (zr 1 0 0) s mi args below meth co (zx_Q below s D zcl w0 kr nr (zr 1 0 0) post) D zcl (va_A w0 s.heap.size) 5 [(0, .ref a), (1, .int i9), (2, .int (nI j)), (3, .int v9), (4, .int (nI (k + 1)))] [(a, .inl (cI, 4096, .inl (upd f k v9)))] 0 0 10 []) : zx_At p l e (zr 1 0 0) s mi args below meth co (zx_Q below s D zcl w0 kr nr (zr 1 0 0) post) D zcl (va_A w0 s.heap.size) 5 [(0, .ref a), (1, .int i9), (2, .int (nI j)), (3, .int v9), (4, .int (nI k))] [(a, .inl (cI, 4096, .inl f))] 0 0 10 [] := by
  refine zx_iload (pc := 10) C d_AR_fill_10 4 rfl ?_
  refine zx_iload_n (pc := 12) C d_AR_fill_12 rfl 2 rfl ?_
  refine zx_icmp_ge (pc := 13) C 27 d_AR_fill_13 (by decide) (fun c13 => ?_) (fun c13 => ?_)
  · exact zx_vret (pc := 27) C hr9 hlk9 (Nat.zero_le _) (Nat.zero_le _) d_AR_fill_27 (r27 c13)
  · refine zx_aload_n (pc := 16) C d_AR_fill_16 rfl 0 rfl ?_
    refine zx_iload (pc := 17) C d_AR_fill_17 4 rfl ?_
    refine zx_iload_n (pc := 19) C d_AR_fill_19 rfl 3 rfl ?_
    refine zx_iast (pc := 20) (ws' := [(a, .inl (cI, 4096, .inl (upd f k v9)))]) C 0 1 rfl rfl k (b20 c13).1 (b20 c13).2 (by decide) rfl d_AR_fill_20 ?_
    refine zx_iinc (pc := 21) C d_AR_fill_21 4 rfl (v := (nI (k + 1))) (e21 c13) (by decide) (lv' := [(4, .int (nI (k + 1))), (0, .ref a), (1, .int i9), (2, .int (nI j)), (3, .int v9)]) rfl ?_
    refine zx_goto (pc := 24) C 10 d_AR_fill_24 (by decide) ?_
    refine zx_lv (lv' := [(0, .ref a), (1, .int i9), (2, .int (nI j)), (3, .int v9), (4, .int (nI (k + 1)))]) [1, 2, 3, 4, 0] rfl ?_
    exact k10 c13

/-- Arrays.fill from 0 to j -/
theorem k_AR_fill (l : Launch) (D : va_G) (cB cI cL : ClassId) (a j : Nat) (v9 : Int32) (f : Nat → Int32) (hj : j ≤ 4096) : zx_K l zB D zcl (zt cB cI cL) y_AR_fill b_AR_fill 5 (none) [] 0 0 (zr 1 0 0) [.ref a, .int (nI 0), .int (nI j), .int v9] [(a, .inl (cI, 4096, .inl f))] (fun o w => o = .returned none ∧ w = [(a, .inl (cI, 4096, .inl (fun k => if k < j then v9 else f k)))]) := by
  refine zx_K.mk (Nat.le_of_ble_eq_true rfl) (fun p e s mm below meth c9 C hr hlk ht hnm => ?_)
  have loop : ∀ (d k : Nat), k + d = j → zx_At p l e (zr 1 0 0) s mm (([.ref a, .int (nI 0), .int (nI j), .int v9] : List Value)).toArray below meth c9 (zx_Q below s D zcl [(a, .inl (cI, 4096, .inl f))] 0 0 (zr 1 0 0) (fun o w => o = .returned none ∧ w = [(a, .inl (cI, 4096, .inl (fun k => if k < j then v9 else f k)))])) D zcl (va_A [(a, .inl (cI, 4096, .inl f))] s.heap.size) 5 [(0, .ref a), (1, .int (nI 0)), (2, .int (nI j)), (3, .int v9), (4, .int (nI k))] [(a, .inl (cI, 4096, .inl (fun q => if q < k then v9 else f q)))] 0 0 10 [] := by
    intro d
    induction d with
    | zero =>
      intro k hk
      have key : nI j ≤ nI k := by rw [show k = j by omega]; exact Int32.le_refl _
      exact sg_AR_fill10 C hr hlk (fun _ => ⟨rfl, by rw [show k = j by omega]⟩) (fun z => absurd key z) (fun z => absurd key z) (fun z => absurd key z)
    | succ d ih =>
      intro k hk
      have nk : ¬ nI j ≤ nI k := fun z => absurd ((nI_leI (by omega) (by omega)).mp z) (by omega)
      refine sg_AR_fill10 C hr hlk (fun z => absurd z nk) (fun _ => ⟨rfl, by omega⟩) (fun _ => nI_1 k) (fun _ => ?_)
      have e1 : upd (fun q => if q < k then v9 else f q) k v9 = (fun q => if q < k + 1 then v9 else f q) := by
        funext q
        by_cases z : q = k
        · rw [z, pk_us, if_pos (by omega)]
        · rw [pk_un z]
          by_cases z2 : q < k
          · rw [if_pos z2, if_pos (by omega)]
          · rw [if_neg z2, if_neg (by omega)]
      rw [e1]
      exact ih (k + 1) (by omega)
  have e0 : (fun q => if q < 0 then v9 else f q) = f := by funext q; rw [if_neg (Nat.not_lt_zero _)]
  have h0 := loop j 0 (by omega)
  rw [e0] at h0
  exact sg_AR_fill C (Nat.zero_le _) hj h0
