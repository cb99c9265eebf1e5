section ZWT
variable {p : Program} {l : Launch} {e : Env} {R : Room} {s : State} {m : MethodId} {args : Array Value} {below : List Frame} {meth : Method} {c : Code} {Q : State → Prop} {D : va_G} {cl : List vw_C} {A : Nat → Prop} {nL : Nat} {lv : List (Nat × Value)} {ws ws' : va_W} {kc ks pc : Nat} {st : List Value}
/-- fewer cells, in another order, while an exception is on its way -/
theorem zx_wsT {x : Nat} (is : List Nat) (hn : va_nd is = true) (hs : is.map (fun i => ws[i]?) = ws'.map some) (h : zx_Th p l e R s m args below meth c Q D cl A nL lv ws' kc ks pc st x) : zx_Th p l e R s m args below meth c Q D cl A nL lv ws kc ks pc st x := fun H locs ls hl hP hD hS => h H locs ls hl (hP.sub is (by
    have h1 : is.filterMap (fun i => ws[i]?) = (is.map (fun i => ws[i]?)).filterMap id := by rw [List.filterMap_map]; rfl
    rw [h1, hs, List.filterMap_map]
    exact List.filterMap_some)) (hD.sub is hn hs) hS
end ZWT
/-- the reader as a function: kind (0: ended, 2: broken, 3: too many), how many indices, the indices -/
def zd_run (m : Nat) (g : Nat → Nat → Nat) (all : Nat) : Nat → Nat → Nat → Nat → Bool → Nat → Nat → (Nat → Nat) → (Nat → Nat) → (Nat → Int32) → Nat → Nat × Nat × (Nat → Int32)
  | 0, _, _, _, _, _, _, _, _, f, made => (2, made, f)
  | d + 1, pl, b, x, fr, ls, ll, rs, rl, f, made =>
    if pl + b ≤ all then
      if g pl b = 2 ^ m + 1 then (0, made, f)
      else if g pl b = 2 ^ m then zd_run m g all d (pl + b) (m + 1) (2 ^ m + 2) true ls ll rs rl f made
      else if zn_x x fr ≤ g pl b then (2, made, f)
      else if 16384 - made < zd_len m (g pl b) (zd_rl rl x ll fr) then (3, made, f)
      else zd_run m g all d (pl + b) (zn_b b x fr) (zn_x x fr) false made (zd_len m (g pl b) (zd_rl rl x ll fr)) (zd_rs rs x ls fr) (zd_rl rl x ll fr) (zd_out m (g pl b) f made (zd_rs rs x ls fr) (zd_rl rl x ll fr)) (made + zd_len m (g pl b) (zd_rl rl x ll fr))
    else (2, made, f)
/-- what holds between codes -/
def zd_inv (m b x : Nat) (fr : Bool) (ls ll : Nat) (rs rl : Nat → Nat) (f : Nat → Int32) (made : Nat) : Prop := (m + 1 ≤ b ∧ b ≤ 12) ∧ (2 ^ m + 2 ≤ x ∧ x ≤ 4096) ∧ made ≤ 16384 ∧ (∀ j, vp_nar .byte (f j) = f j) ∧ (∀ j, 2 ^ m + 2 ≤ j → j < x → rs j ≤ made ∧ rl j ≤ 16385) ∧ (fr = false → ls ≤ made ∧ ll ≤ 16384)
theorem zd_inv_new {m ls ll : Nat} {rs rl : Nat → Nat} {f : Nat → Int32} {made : Nat} (hm : 2 ≤ m ∧ m ≤ 8) (h4 : made ≤ 16384) (hb : ∀ j, vp_nar .byte (f j) = f j) : zd_inv m (m + 1) (2 ^ m + 2) true ls ll rs rl f made := by
  have := zp_pow8 hm.2
  exact ⟨⟨Nat.le_refl _, by omega⟩, ⟨Nat.le_refl _, by omega⟩, h4, hb, fun j h1 h2 => by omega, fun h => by cases h⟩
theorem zd_row {m b x : Nat} {fr : Bool} {ls ll : Nat} {rs rl : Nat → Nat} {f : Nat → Int32} {made : Nat} (h : zd_inv m b x fr ls ll rs rl f made) {c : Nat} (h1 : c < zn_x x fr) (h2 : 2 ^ m + 2 ≤ c) : zd_rs rs x ls fr c ≤ made ∧ zd_rl rl x ll fr c ≤ 16385 := by
  obtain ⟨-, -, -, -, h5, h6⟩ := h
  unfold zd_rs zd_rl
  unfold zn_x at h1
  by_cases q : fr = false ∧ x < 4096
  · rw [if_pos q] at h1 ⊢
    rw [if_pos q]
    by_cases q2 : c = x
    · have := h6 q.1
      simp only [updN, if_pos q2]
      omega
    · simp only [updN, if_neg q2]
      exact h5 c h2 (by omega)
  · rw [if_neg q] at h1 ⊢
    rw [if_neg q]
    exact h5 c h2 h1
theorem zn_x_le {x : Nat} {fr : Bool} (h : x ≤ 4096) : x ≤ zn_x x fr ∧ zn_x x fr ≤ 4096 := by
  unfold zn_x
  by_cases q : fr = false ∧ x < 4096
  · rw [if_pos q]; omega
  · rw [if_neg q]; omega
theorem zn_b_le {b x : Nat} {fr : Bool} (h : b ≤ 12) : b ≤ zn_b b x fr ∧ zn_b b x fr ≤ 12 := by
  unfold zn_b
  by_cases q : fr = false ∧ x < 4096 ∧ x + 1 = 2 ^ b ∧ b < 12
  · rw [if_pos q]; omega
  · rw [if_neg q]; omega
theorem zd_inv_next {m b x : Nat} {fr : Bool} {ls ll : Nat} {rs rl : Nat → Nat} {f : Nat → Int32} {made c : Nat} (h : zd_inv m b x fr ls ll rs rl f made) (hl : zd_len m c (zd_rl rl x ll fr) ≤ 16384 - made) : zd_inv m (zn_b b x fr) (zn_x x fr) false made (zd_len m c (zd_rl rl x ll fr)) (zd_rs rs x ls fr) (zd_rl rl x ll fr) (zd_out m c f made (zd_rs rs x ls fr) (zd_rl rl x ll fr)) (made + zd_len m c (zd_rl rl x ll fr)) := by
  have hr : ∀ j, 2 ^ m + 2 ≤ j → j < zn_x x fr → _ := fun j h1 h2 => zd_row h h2 h1
  obtain ⟨h1, h2, h3, h4, -, -⟩ := h
  have a1 := zn_x_le (fr := fr) h2.2
  have a2 := zn_b_le (x := x) (fr := fr) h1.2
  refine ⟨by omega, by omega, by omega, fun j => ?_, fun j q1 q2 => ?_, fun _ => by omega⟩
  · unfold zd_out
    by_cases q : c < 2 ^ m
    · rw [if_pos q]
      by_cases q2 : j = made
      · rw [q2, pk_us]; exact zby_nar c
      · rw [pk_un q2]; exact h4 j
    · rw [if_neg q]; exact zcp_by h4 _ j
  · have := hr j q1 q2
    omega
set_option maxRecDepth 100000 in
set_option maxHeartbeats 4000000 in
theorem sg_UN_read0 {p : Program} {l : Launch} {e : Env} {s : State} {mi : MethodId} {args : Array Value} {below : List Frame} {meth : Method} {co : Code} {D : va_G} {cB cI cL : ClassId} {Q : State → Prop} {A : Nat → Prop} (C : zx_C p s mi args co b_UN_read 9 R_UN zB D zcl (zt cB cI cL) A) {a na sa la i0 t ia m n ls ll : Nat} {rs rl : Nat → Nat} {ft f : Nat → Int32} {m9 b9 x9 f9 made9 : Int32} (hm : m < 16) (e22 : ((8 : Int32) * (nI n)) = (nI (8 * n))) (k31 : zx_At p l e (zr 9 1 6) s mi args below meth co Q D zcl A 9 [(0, .ref a), (1, .ref t), (2, .int (nI n)), (3, .int (nI m)), (4, .ref ia), (5, .int (nI (8 * n))), (6, .int (0 : Int32)), (7, .int (0 : Int32))] [(a, .inr (2, [.ref na, .ref sa, .ref la, .ref ia, .int (0 : Int32), .int (nI ls), .int (nI ll)])), (na, .inr (0, [.int (nI m), .int (nI (m + 1)), .int (nI (2 ^ m + 2)), .int 1])), (sa, .inl (cI, 4096, .inl (zf rs))), (la, .inl (cI, 4096, .inl (zf rl))), (t, .inl (cB, 16384, .inl ft)), (ia, .inl (cB, 16384, .inl f))] 0 0 31 []) : zx_At p l e (zr 9 1 6) s mi args below meth co Q D zcl A 9 [(0, .ref a), (1, .ref t), (2, .int (nI n)), (3, .int (nI m)), (4, .ref ia)] [(a, .inr (2, [.ref na, .ref sa, .ref la, .ref i0, .int made9, .int (nI ls), .int (nI ll)])), (na, .inr (0, [.int m9, .int b9, .int x9, .int f9])), (sa, .inl (cI, 4096, .inl (zf rs))), (la, .inl (cI, 4096, .inl (zf rl))), (t, .inl (cB, 16384, .inl ft)), (ia, .inl (cB, 16384, .inl f))] 0 0 0 [] := by
  refine zx_aload_n (pc := 0) C d_UN_read_0 rfl 0 rfl ?_
  refine zx_get (pc := 1) (ci := 2) (Cn := R_UN) (T := T_UN) (N := 7) (v := .ref na) C zu_UN 0 rfl rfl 0 (by decide) zw_63 rfl rfl d_UN_read_1 ?_
  refine zx_iload_n (pc := 4) C d_UN_read_4 rfl 3 rfl ?_
  refine zx_callV (pc := 5) (ix := 39) (As := [.int (nI m)]) (b := na) (q0 := 1) (wr := [(a, .inr (2, [.ref na, .ref sa, .ref la, .ref i0, .int made9, .int (nI ls), .int (nI ll)])), (sa, .inl (cI, 4096, .inl (zf rs))), (la, .inl (cI, 4096, .inl (zf rl))), (t, .inl (cB, 16384, .inl ft)), (ia, .inl (cB, 16384, .inl f))]) (st := []) C (zx_cw.of (C.w zw_281)) (by decide +kernel) ⟨by decide +kernel, by decide +kernel⟩ zw_279 zw_280 zw_278 rfl rfl rfl rfl rfl (k_NU_startWith l D cB cI cL na m m9 b9 x9 f9 hm) rfl [1] [0, 2, 3, 4, 5] rfl rfl (by decide) (by decide) (by decide) (Nat.le_of_ble_eq_true rfl) (Nat.le_of_ble_eq_true rfl) (Nat.le_of_ble_eq_true rfl) (Nat.le_of_ble_eq_true rfl) d_UN_read_5 (fun o w1 hp => ?_)
  obtain ⟨rfl, rfl⟩ := hp
  refine zx_rv (k2 := 0) (n2 := 0) rfl rfl ?_
  refine zx_ws (ws' := [(a, .inr (2, [.ref na, .ref sa, .ref la, .ref i0, .int made9, .int (nI ls), .int (nI ll)])), (na, .inr (0, [.int (nI m), .int (nI (m + 1)), .int (nI (2 ^ m + 2)), .int 1])), (sa, .inl (cI, 4096, .inl (zf rs))), (la, .inl (cI, 4096, .inl (zf rl))), (t, .inl (cB, 16384, .inl ft)), (ia, .inl (cB, 16384, .inl f))]) [0, 5, 1, 2, 3, 4] (by decide) rfl ?_
  refine zx_aload_n (pc := 8) C d_UN_read_8 rfl 0 rfl ?_
  refine zx_aload (pc := 9) C d_UN_read_9 4 rfl ?_
  refine zx_put (pc := 11) (ci := 2) (Cn := R_UN) (T := T_UN) (N := 7) (v := .ref ia) (ty := .array .byte) (ws' := [(a, .inr (2, [.ref na, .ref sa, .ref la, .ref ia, .int made9, .int (nI ls), .int (nI ll)])), (na, .inr (0, [.int (nI m), .int (nI (m + 1)), .int (nI (2 ^ m + 2)), .int 1])), (sa, .inl (cI, 4096, .inl (zf rs))), (la, .inl (cI, 4096, .inl (zf rl))), (t, .inl (cB, 16384, .inl ft)), (ia, .inl (cB, 16384, .inl f))]) C zu_UN ty_UN tyk_UN nm_UN 0 rfl rfl 3 (by decide) zw_66 rfl rfl (by decide +kernel) rfl rfl (Nat.le_of_ble_eq_true rfl) rfl d_UN_read_11 ?_
  refine zx_aload_n (pc := 14) C d_UN_read_14 rfl 0 rfl ?_
  refine zx_iconst (pc := 15) C d_UN_read_15 (v := (0 : Int32)) (by decide) ?_
  refine zx_put (pc := 16) (ci := 2) (Cn := R_UN) (T := T_UN) (N := 7) (v := .int (0 : Int32)) (ty := .int) (ws' := [(a, .inr (2, [.ref na, .ref sa, .ref la, .ref ia, .int (0 : Int32), .int (nI ls), .int (nI ll)])), (na, .inr (0, [.int (nI m), .int (nI (m + 1)), .int (nI (2 ^ m + 2)), .int 1])), (sa, .inl (cI, 4096, .inl (zf rs))), (la, .inl (cI, 4096, .inl (zf rl))), (t, .inl (cB, 16384, .inl ft)), (ia, .inl (cB, 16384, .inl f))]) C zu_UN ty_UN tyk_UN nm_UN 0 rfl rfl 4 (by decide) zw_67 rfl rfl (by decide +kernel) rfl rfl (Nat.le_of_ble_eq_true rfl) rfl d_UN_read_16 ?_
  refine zx_bipush (pc := 19) C d_UN_read_19 (v := (8 : Int32)) (by decide) ?_
  refine zx_iload_n (pc := 21) C d_UN_read_21 rfl 2 rfl ?_
  refine zx_imul (pc := 22) C d_UN_read_22 ?_
  refine zx_seti (nI (8 * n)) (e22) ?_
  refine zx_istore (pc := 23) C d_UN_read_23 (by decide) (lv' := [(5, .int (nI (8 * n))), (0, .ref a), (1, .ref t), (2, .int (nI n)), (3, .int (nI m)), (4, .ref ia)]) rfl ?_
  refine zx_iconst (pc := 25) C d_UN_read_25 (v := (0 : Int32)) (by decide) ?_
  refine zx_istore (pc := 26) C d_UN_read_26 (by decide) (lv' := [(6, .int (0 : Int32)), (5, .int (nI (8 * n))), (0, .ref a), (1, .ref t), (2, .int (nI n)), (3, .int (nI m)), (4, .ref ia)]) rfl ?_
  refine zx_iconst (pc := 28) C d_UN_read_28 (v := (0 : Int32)) (by decide) ?_
  refine zx_istore (pc := 29) C d_UN_read_29 (by decide) (lv' := [(7, .int (0 : Int32)), (6, .int (0 : Int32)), (5, .int (nI (8 * n))), (0, .ref a), (1, .ref t), (2, .int (nI n)), (3, .int (nI m)), (4, .ref ia)]) rfl ?_
  refine zx_lv (lv' := [(0, .ref a), (1, .ref t), (2, .int (nI n)), (3, .int (nI m)), (4, .ref ia), (5, .int (nI (8 * n))), (6, .int (0 : Int32)), (7, .int (0 : Int32))]) [3, 4, 5, 6, 7, 2, 1, 0] rfl ?_
  exact k31

set_option maxRecDepth 100000 in
set_option maxHeartbeats 4000000 in
theorem sg_UN_read31 {p : Program} {l : Launch} {e : Env} {s : State} {mi : MethodId} {args : Array Value} {below : List Frame} {meth : Method} {co : Code} {D : va_G} {cB cI cL : ClassId} {w0 : va_W} {kr nr : Nat} {post : Outcome → va_W → Prop} (C : zx_C p s mi args co b_UN_read 9 R_UN zB D zcl (zt cB cI cL) (va_A w0 s.heap.size)) {a na sa la t ia m n b x ls ll made pl cd : Nat} {fr : Bool} {rs rl : Nat → Nat} {ft f : Nat → Int32} (hn : n ≤ 16384) (hm : m ≤ 8) (hb : b ≤ 12) (hx : x ≤ 4096) (hmd : made ≤ 16384) (hby : ∀ j, vp_nar .byte (f j) = f j) (hc : zcode ft n pl b < 4096) (hco : ¬ (nI (8 * n)) < (nI (pl + b)) → pl + b ≤ 8 * n) (hrow : ¬ nI (zcode ft n pl b) = nI (2 ^ m + 1) → ¬ nI (zcode ft n pl b) = nI (2 ^ m) → zcode ft n pl b < zn_x x fr → 2 ^ m ≤ zcode ft n pl b → zd_rs rs x ls fr (zcode ft n pl b) ≤ made ∧ zd_rl rl x ll fr (zcode ft n pl b) ≤ 16385) (hr9 : meth.sig.returnType = some .int) (hlk9 : meth.locks = false) (hl9 : l.stackTraces = false) (ht9 : co.exceptionTable.toList.map (fun h => (h.startPc, h.endPc, h.handlerPc, h.catchType)) = []) (t132 : ((nI (8 * n)) ≤ (nI cd)) → ∀ x9 : Nat, post (.threw x9) [(a, .inr (2, [.ref na, .ref sa, .ref la, .ref ia, .int (nI made), .int (nI ls), .int (nI ll)])), (na, .inr (0, [.int (nI m), .int (nI b), .int (nI x), .int (zb fr)])), (sa, .inl (cI, 4096, .inl (zf rs))), (la, .inl (cI, 4096, .inl (zf rl))), (t, .inl (cB, 16384, .inl ft)), (ia, .inl (cB, 16384, .inl f)), (x9, .inr (7, []))]) (e47 : (¬ (nI (8 * n)) ≤ (nI cd)) → ((nI pl) + (nI b)) = (nI (pl + b))) (t132_2 : (¬ (nI (8 * n)) ≤ (nI cd)) → ((nI (8 * n)) < (nI (pl + b))) → ∀ x9 : Nat, post (.threw x9) [(a, .inr (2, [.ref na, .ref sa, .ref la, .ref ia, .int (nI made), .int (nI ls), .int (nI ll)])), (na, .inr (0, [.int (nI m), .int (nI b), .int (nI x), .int (zb fr)])), (sa, .inl (cI, 4096, .inl (zf rs))), (la, .inl (cI, 4096, .inl (zf rl))), (t, .inl (cB, 16384, .inl ft)), (ia, .inl (cB, 16384, .inl f)), (x9, .inr (7, []))]) (e78 : (¬ (nI (8 * n)) ≤ (nI cd)) → (¬ (nI (8 * n)) < (nI (pl + b))) → ((nI pl) + (nI b)) = (nI (pl + b))) (t123 : (¬ (nI (8 * n)) ≤ (nI cd)) → (¬ (nI (8 * n)) < (nI (pl + b))) → (¬ (nI (zcode ft n pl b)) = (nI (2 ^ m + 1))) → (¬ (nI (zcode ft n pl b)) = (nI (2 ^ m))) → (zn_x x fr ≤ (zcode ft n pl b)) → ∀ x9 : Nat, post (.threw x9) [(a, .inr (2, [.ref na, .ref sa, .ref la, .ref ia, .int (nI made), .int (nI ls), .int (nI ll)])), (na, .inr (0, [.int (nI m), .int (nI b), .int (nI x), .int (zb fr)])), (sa, .inl (cI, 4096, .inl (zf (zd_rs rs x ls fr)))), (la, .inl (cI, 4096, .inl (zf (zd_rl rl x ll fr)))), (t, .inl (cB, 16384, .inl ft)), (ia, .inl (cB, 16384, .inl f)), (x9, .inr (7, []))]) (t123_2 : (¬ (nI (8 * n)) ≤ (nI cd)) → (¬ (nI (8 * n)) < (nI (pl + b))) → (¬ (nI (zcode ft n pl b)) = (nI (2 ^ m + 1))) → (¬ (nI (zcode ft n pl b)) = (nI (2 ^ m))) → ((zcode ft n pl b) < zn_x x fr ∧ 16384 - made < (zd_len m (zcode ft n pl b) (zd_rl rl x ll fr))) → ∀ x9 : Nat, post (.threw x9) [(a, .inr (2, [.ref na, .ref sa, .ref la, .ref ia, .int (nI made), .int (nI ls), .int (nI ll)])), (na, .inr (0, [.int (nI m), .int (nI b), .int (nI x), .int (zb fr)])), (sa, .inl (cI, 4096, .inl (zf (zd_rs rs x ls fr)))), (la, .inl (cI, 4096, .inl (zf (zd_rl rl x ll fr)))), (t, .inl (cB, 16384, .inl ft)), (ia, .inl (cB, 16384, .inl f)), (x9, .inr (8, []))]) (e126 : (¬ (nI (8 * n)) ≤ (nI cd)) → (¬ (nI (8 * n)) < (nI (pl + b))) → (¬ (nI (zcode ft n pl b)) = (nI (2 ^ m + 1))) → (¬ (nI (zcode ft n pl b)) = (nI (2 ^ m))) → ((zcode ft n pl b) < zn_x x fr ∧ (zd_len m (zcode ft n pl b) (zd_rl rl x ll fr)) ≤ 16384 - made) → (nI cd) + (1 : Int32) = (nI (cd + 1))) (k31 : (¬ (nI (8 * n)) ≤ (nI cd)) → (¬ (nI (8 * n)) < (nI (pl + b))) → (¬ (nI (zcode ft n pl b)) = (nI (2 ^ m + 1))) → (¬ (nI (zcode ft n pl b)) = (nI (2 ^ m))) → ((zcode ft n pl b) < zn_x x fr ∧ (zd_len m (zcode ft n pl b) (zd_rl rl x ll fr)) ≤ 16384 - made) → zx_At p l e (zr 9 1 6) s mi args below meth co (zx_Q below s D zcl w0 kr nr (zr 9 1 6) post) D zcl (va_A w0 s.heap.size) 9 [(0, .ref a), (1, .ref t), (2, .int (nI n)), (3, .int (nI m)), (4, .ref ia), (5, .int (nI (8 * n))), (6, .int (nI (pl + b))), (7, .int (nI (cd + 1)))] [(a, .inr (2, [.ref na, .ref sa, .ref la, .ref ia, .int (nI (made + (zd_len m (zcode ft n pl b) (zd_rl rl x ll fr)))), .int (nI made), .int (nI (zd_len m (zcode ft n pl b) (zd_rl rl x ll fr)))])), (na, .inr (0, [.int (nI m), .int (nI (zn_b b x fr)), .int (nI (zn_x x fr)), .int 0])), (sa, .inl (cI, 4096, .inl (zf (zd_rs rs x ls fr)))), (la, .inl (cI, 4096, .inl (zf (zd_rl rl x ll fr)))), (t, .inl (cB, 16384, .inl ft)), (ia, .inl (cB, 16384, .inl (zd_out m (zcode ft n pl b) f made (zd_rs rs x ls fr) (zd_rl rl x ll fr))))] 0 0 31 []) (e126_2 : (¬ (nI (8 * n)) ≤ (nI cd)) → (¬ (nI (8 * n)) < (nI (pl + b))) → (¬ (nI (zcode ft n pl b)) = (nI (2 ^ m + 1))) → ((nI (zcode ft n pl b)) = (nI (2 ^ m))) → (nI cd) + (1 : Int32) = (nI (cd + 1))) (k31_2 : (¬ (nI (8 * n)) ≤ (nI cd)) → (¬ (nI (8 * n)) < (nI (pl + b))) → (¬ (nI (zcode ft n pl b)) = (nI (2 ^ m + 1))) → ((nI (zcode ft n pl b)) = (nI (2 ^ m))) → zx_At p l e (zr 9 1 6) s mi args below meth co (zx_Q below s D zcl w0 kr nr (zr 9 1 6) post) D zcl (va_A w0 s.heap.size) 9 [(0, .ref a), (1, .ref t), (2, .int (nI n)), (3, .int (nI m)), (4, .ref ia), (5, .int (nI (8 * n))), (6, .int (nI (pl + b))), (7, .int (nI (cd + 1)))] [(a, .inr (2, [.ref na, .ref sa, .ref la, .ref ia, .int (nI made), .int (nI ls), .int (nI ll)])), (na, .inr (0, [.int (nI m), .int (nI (m + 1)), .int (nI (2 ^ m + 2)), .int 1])), (sa, .inl (cI, 4096, .inl (zf rs))), (la, .inl (cI, 4096, .inl (zf rl))), (t, .inl (cB, 16384, .inl ft)), (ia, .inl (cB, 16384, .inl f))] 0 0 31 []) (r97 : (¬ (nI (8 * n)) ≤ (nI cd)) → (¬ (nI (8 * n)) < (nI (pl + b))) → ((nI (zcode ft n pl b)) = (nI (2 ^ m + 1))) → post (.returned (some (.int (nI made)))) [(a, .inr (2, [.ref na, .ref sa, .ref la, .ref ia, .int (nI made), .int (nI ls), .int (nI ll)])), (na, .inr (0, [.int (nI m), .int (nI b), .int (nI x), .int (zb fr)])), (sa, .inl (cI, 4096, .inl (zf rs))), (la, .inl (cI, 4096, .inl (zf rl))), (t, .inl (cB, 16384, .inl ft)), (ia, .inl (cB, 16384, .inl f))]) : zx_At p l e (zr 9 1 6) s mi args below meth co (zx_Q below s D zcl w0 kr nr (zr 9 1 6) post) D zcl (va_A w0 s.heap.size) 9 [(0, .ref a), (1, .ref t), (2, .int (nI n)), (3, .int (nI m)), (4, .ref ia), (5, .int (nI (8 * n))), (6, .int (nI pl)), (7, .int (nI cd))] [(a, .inr (2, [.ref na, .ref sa, .ref la, .ref ia, .int (nI made), .int (nI ls), .int (nI ll)])), (na, .inr (0, [.int (nI m), .int (nI b), .int (nI x), .int (zb fr)])), (sa, .inl (cI, 4096, .inl (zf rs))), (la, .inl (cI, 4096, .inl (zf rl))), (t, .inl (cB, 16384, .inl ft)), (ia, .inl (cB, 16384, .inl f))] 0 0 31 [] := by
  refine zx_iload (pc := 31) C d_UN_read_31 7 rfl ?_
  refine zx_iload (pc := 33) C d_UN_read_33 5 rfl ?_
  refine zx_icmp_ge (pc := 35) C 132 d_UN_read_35 (by decide) (fun c35 => ?_) (fun c35 => ?_)
  · exact zx_throwS (pc := 132) (names := zex) (ci := 7) C hl9 (by decide +kernel) zex_fit zw_310 zw_13 zw_342 zh_UN_67 rfl hlk9 (zx_noTab ht9 _) d_UN_read_132 d_UN_read_135 d_UN_read_136 d_UN_read_138 d_UN_read_141 (Nat.le_of_ble_eq_true rfl) (Nat.le_of_ble_eq_true rfl) (Nat.le_of_ble_eq_true rfl) (Nat.le_of_ble_eq_true rfl) (t132 c35)
  · refine zx_iload (pc := 38) C d_UN_read_38 6 rfl ?_
    refine zx_aload_n (pc := 40) C d_UN_read_40 rfl 0 rfl ?_
    refine zx_get (pc := 41) (ci := 2) (Cn := R_UN) (T := T_UN) (N := 7) (v := .ref na) C zu_UN 0 rfl rfl 0 (by decide) zw_63 rfl rfl d_UN_read_41 ?_
    refine zx_getN (pc := 44) (ci := 0) (Cn := R_NU) (T := T_NU) (N := 4) (v := .int (nI b)) C zu_NU 1 rfl rfl 1 (by decide) zw_46 rfl rfl d_UN_read_44 ?_
    refine zx_iadd (pc := 47) C d_UN_read_47 ?_
    refine zx_seti (nI (pl + b)) (e47 c35) ?_
    refine zx_iload (pc := 48) C d_UN_read_48 5 rfl ?_
    refine zx_icmp_gt (pc := 50) C 132 d_UN_read_50 (by decide) (fun c50 => ?_) (fun c50 => ?_)
    · exact zx_throwS (pc := 132) (names := zex) (ci := 7) C hl9 (by decide +kernel) zex_fit zw_310 zw_13 zw_342 zh_UN_67 rfl hlk9 (zx_noTab ht9 _) d_UN_read_132 d_UN_read_135 d_UN_read_136 d_UN_read_138 d_UN_read_141 (Nat.le_of_ble_eq_true rfl) (Nat.le_of_ble_eq_true rfl) (Nat.le_of_ble_eq_true rfl) (Nat.le_of_ble_eq_true rfl) (t132_2 c35 c50)
    · refine zx_aload_n (pc := 53) C d_UN_read_53 rfl 1 rfl ?_
      refine zx_iload_n (pc := 54) C d_UN_read_54 rfl 2 rfl ?_
      refine zx_iload (pc := 55) C d_UN_read_55 6 rfl ?_
      refine zx_aload_n (pc := 57) C d_UN_read_57 rfl 0 rfl ?_
      refine zx_get (pc := 58) (ci := 2) (Cn := R_UN) (T := T_UN) (N := 7) (v := .ref na) C zu_UN 0 rfl rfl 0 (by decide) zw_63 rfl rfl d_UN_read_58 ?_
      refine zx_getN (pc := 61) (ci := 0) (Cn := R_NU) (T := T_NU) (N := 4) (v := .int (nI b)) C zu_NU 1 rfl rfl 1 (by decide) zw_46 rfl rfl d_UN_read_61 ?_
      refine zx_callS (pc := 64) (ix := 46) (wr := [(a, .inr (2, [.ref na, .ref sa, .ref la, .ref ia, .int (nI made), .int (nI ls), .int (nI ll)])), (na, .inr (0, [.int (nI m), .int (nI b), .int (nI x), .int (zb fr)])), (sa, .inl (cI, 4096, .inl (zf rs))), (la, .inl (cI, 4096, .inl (zf rl))), (ia, .inl (cB, 16384, .inl f))]) (st := []) C (zx_cw.of (C.w zw_288)) (by decide +kernel) ⟨by decide +kernel, by decide +kernel⟩ zw_287 zw_2 zw_286 rfl (k_UN_codeAt l D cB cI cL (zr 0 0 0) t n pl b ft hn hb (hco c50)) rfl [4] [0, 1, 2, 3, 5] rfl rfl (by decide) (by decide) (by decide) (Nat.le_of_ble_eq_true rfl) (Nat.le_of_ble_eq_true rfl) (Nat.le_of_ble_eq_true rfl) (Nat.le_of_ble_eq_true rfl) d_UN_read_64 (fun o w1 hp => ?_)
      obtain ⟨rfl, rfl⟩ := hp
      refine zx_ri (k2 := 0) (n2 := 0) rfl rfl ?_
      refine zx_ws (ws' := [(a, .inr (2, [.ref na, .ref sa, .ref la, .ref ia, .int (nI made), .int (nI ls), .int (nI ll)])), (na, .inr (0, [.int (nI m), .int (nI b), .int (nI x), .int (zb fr)])), (sa, .inl (cI, 4096, .inl (zf rs))), (la, .inl (cI, 4096, .inl (zf rl))), (t, .inl (cB, 16384, .inl ft)), (ia, .inl (cB, 16384, .inl f))]) [0, 1, 2, 3, 5, 4] (by decide) rfl ?_
      refine zx_istore (pc := 67) C d_UN_read_67 (by decide) (lv' := [(8, .int (nI (zcode ft n pl b))), (0, .ref a), (1, .ref t), (2, .int (nI n)), (3, .int (nI m)), (4, .ref ia), (5, .int (nI (8 * n))), (6, .int (nI pl)), (7, .int (nI cd))]) rfl ?_
      refine zx_iload (pc := 69) C d_UN_read_69 7 rfl ?_
      refine zx_aload_n (pc := 71) C d_UN_read_71 rfl 1 rfl ?_
      refine zx_get (pc := 72) (ci := 2) (Cn := R_UN) (T := T_UN) (N := 7) (v := .ref na) C zu_UN 0 rfl rfl 0 (by decide) zw_63 rfl rfl d_UN_read_72 ?_
      refine zx_getN (pc := 75) (ci := 0) (Cn := R_NU) (T := T_NU) (N := 4) (v := .int (nI b)) C zu_NU 1 rfl rfl 1 (by decide) zw_46 rfl rfl d_UN_read_75 ?_
      refine zx_iadd (pc := 78) C d_UN_read_78 ?_
      refine zx_seti (nI (pl + b)) (e78 c35 c50) ?_
      refine zx_istore (pc := 79) C d_UN_read_79 (by decide) (lv' := [(6, .int (nI (pl + b))), (8, .int (nI (zcode ft n pl b))), (0, .ref a), (1, .ref t), (2, .int (nI n)), (3, .int (nI m)), (4, .ref ia), (5, .int (nI (8 * n))), (7, .int (nI cd))]) rfl ?_
      refine zx_iload (pc := 81) C d_UN_read_81 1 rfl ?_
      refine zx_aload_n (pc := 83) C d_UN_read_83 rfl 2 rfl ?_
      refine zx_get (pc := 84) (ci := 2) (Cn := R_UN) (T := T_UN) (N := 7) (v := .ref na) C zu_UN 0 rfl rfl 0 (by decide) zw_63 rfl rfl d_UN_read_84 ?_
      refine zx_callV (pc := 87) (ix := 50) (As := []) (b := na) (q0 := 1) (wr := [(a, .inr (2, [.ref na, .ref sa, .ref la, .ref ia, .int (nI made), .int (nI ls), .int (nI ll)])), (sa, .inl (cI, 4096, .inl (zf rs))), (la, .inl (cI, 4096, .inl (zf rl))), (t, .inl (cB, 16384, .inl ft)), (ia, .inl (cB, 16384, .inl f))]) (st := [.int (nI (zcode ft n pl b))]) C (zx_cw.of (C.w zw_292)) (by decide +kernel) ⟨by decide +kernel, by decide +kernel⟩ zw_290 zw_291 zw_289 rfl rfl rfl rfl rfl (k_NU_ending l D cB cI cL (zr 0 0 0) na m (nI b) (nI x) (zb fr) (by omega)) rfl [1] [0, 2, 3, 4, 5] rfl rfl (by decide) (by decide) (by decide) (Nat.le_of_ble_eq_true rfl) (Nat.le_of_ble_eq_true rfl) (Nat.le_of_ble_eq_true rfl) (Nat.le_of_ble_eq_true rfl) d_UN_read_87 (fun o w1 hp => ?_)
      obtain ⟨rfl, rfl⟩ := hp
      refine zx_ri (k2 := 0) (n2 := 0) rfl rfl ?_
      refine zx_ws (ws' := [(a, .inr (2, [.ref na, .ref sa, .ref la, .ref ia, .int (nI made), .int (nI ls), .int (nI ll)])), (na, .inr (0, [.int (nI m), .int (nI b), .int (nI x), .int (zb fr)])), (sa, .inl (cI, 4096, .inl (zf rs))), (la, .inl (cI, 4096, .inl (zf rl))), (t, .inl (cB, 16384, .inl ft)), (ia, .inl (cB, 16384, .inl f))]) [0, 5, 1, 2, 3, 4] (by decide) rfl ?_
      refine zx_icmp_ne (pc := 90) C 98 d_UN_read_90 (by decide) (fun c90 => ?_) (fun c90 => ?_)
      · refine zx_iload (pc := 98) C d_UN_read_98 1 rfl ?_
        refine zx_aload_n (pc := 100) C d_UN_read_100 rfl 2 rfl ?_
        refine zx_get (pc := 101) (ci := 2) (Cn := R_UN) (T := T_UN) (N := 7) (v := .ref na) C zu_UN 0 rfl rfl 0 (by decide) zw_63 rfl rfl d_UN_read_101 ?_
        refine zx_callV (pc := 104) (ix := 54) (As := []) (b := na) (q0 := 1) (wr := [(a, .inr (2, [.ref na, .ref sa, .ref la, .ref ia, .int (nI made), .int (nI ls), .int (nI ll)])), (sa, .inl (cI, 4096, .inl (zf rs))), (la, .inl (cI, 4096, .inl (zf rl))), (t, .inl (cB, 16384, .inl ft)), (ia, .inl (cB, 16384, .inl f))]) (st := [.int (nI (zcode ft n pl b))]) C (zx_cw.of (C.w zw_296)) (by decide +kernel) ⟨by decide +kernel, by decide +kernel⟩ zw_294 zw_295 zw_293 rfl rfl rfl rfl rfl (k_NU_beginning l D cB cI cL (zr 0 0 0) na m (nI b) (nI x) (zb fr) (by omega)) rfl [1] [0, 2, 3, 4, 5] rfl rfl (by decide) (by decide) (by decide) (Nat.le_of_ble_eq_true rfl) (Nat.le_of_ble_eq_true rfl) (Nat.le_of_ble_eq_true rfl) (Nat.le_of_ble_eq_true rfl) d_UN_read_104 (fun o w1 hp => ?_)
        obtain ⟨rfl, rfl⟩ := hp
        refine zx_ri (k2 := 0) (n2 := 0) rfl rfl ?_
        refine zx_ws (ws' := [(a, .inr (2, [.ref na, .ref sa, .ref la, .ref ia, .int (nI made), .int (nI ls), .int (nI ll)])), (na, .inr (0, [.int (nI m), .int (nI b), .int (nI x), .int (zb fr)])), (sa, .inl (cI, 4096, .inl (zf rs))), (la, .inl (cI, 4096, .inl (zf rl))), (t, .inl (cB, 16384, .inl ft)), (ia, .inl (cB, 16384, .inl f))]) [0, 5, 1, 2, 3, 4] (by decide) rfl ?_
        refine zx_icmp_ne (pc := 107) C 120 d_UN_read_107 (by decide) (fun c107 => ?_) (fun c107 => ?_)
        · refine zx_aload_n (pc := 120) C d_UN_read_120 rfl 2 rfl ?_
          refine zx_iload (pc := 121) C d_UN_read_121 1 rfl ?_
          refine zx_callV (pc := 123) (ix := 60) (As := [.int (nI (zcode ft n pl b))]) (b := a) (q0 := 0) (wr := [(t, .inl (cB, 16384, .inl ft))]) (st := []) C (zx_cw.of (C.w zw_301)) (by decide +kernel) ⟨by decide +kernel, by decide +kernel⟩ zw_300 zs_UN_takeCode zw_298 rfl rfl rfl rfl rfl (k_UN_takeCode l D cB cI cL hl9 a na sa la ia m b x ls ll made (zcode ft n pl b) fr rs rl f hm (by omega) hx hc hmd hby (hrow c90 c107)) rfl [0, 1, 2, 3, 5] [4] rfl rfl (by decide) (by decide) (by decide) (Nat.le_of_ble_eq_true rfl) (Nat.le_of_ble_eq_true rfl) (Nat.le_of_ble_eq_true rfl) (Nat.le_of_ble_eq_true rfl) d_UN_read_123 (fun o w1 hp => ?_)
          rcases hp with ⟨hc123, x9, rfl, rfl⟩ | ⟨hc123, x9, rfl, rfl⟩ | ⟨hc123, rfl, rfl⟩
          · exact zx_rt (k2 := 1) (n2 := 6) rfl rfl (zx_wsT (ws' := [(a, .inr (2, [.ref na, .ref sa, .ref la, .ref ia, .int (nI made), .int (nI ls), .int (nI ll)])), (na, .inr (0, [.int (nI m), .int (nI b), .int (nI x), .int (zb fr)])), (sa, .inl (cI, 4096, .inl (zf (zd_rs rs x ls fr)))), (la, .inl (cI, 4096, .inl (zf (zd_rl rl x ll fr)))), (t, .inl (cB, 16384, .inl ft)), (ia, .inl (cB, 16384, .inl f)), (x9, .inr (7, []))]) [1, 2, 3, 4, 0, 5, 6] (by decide) rfl (zx_leave hlk9 (zx_noTab ht9 _) (Nat.le_of_ble_eq_true rfl) (Nat.le_of_ble_eq_true rfl) (t123 c35 c50 c90 c107 hc123 x9)))
          · exact zx_rt (k2 := 1) (n2 := 6) rfl rfl (zx_wsT (ws' := [(a, .inr (2, [.ref na, .ref sa, .ref la, .ref ia, .int (nI made), .int (nI ls), .int (nI ll)])), (na, .inr (0, [.int (nI m), .int (nI b), .int (nI x), .int (zb fr)])), (sa, .inl (cI, 4096, .inl (zf (zd_rs rs x ls fr)))), (la, .inl (cI, 4096, .inl (zf (zd_rl rl x ll fr)))), (t, .inl (cB, 16384, .inl ft)), (ia, .inl (cB, 16384, .inl f)), (x9, .inr (8, []))]) [1, 2, 3, 4, 0, 5, 6] (by decide) rfl (zx_leave hlk9 (zx_noTab ht9 _) (Nat.le_of_ble_eq_true rfl) (Nat.le_of_ble_eq_true rfl) (t123_2 c35 c50 c90 c107 hc123 x9)))
          · refine zx_rv (k2 := 0) (n2 := 0) rfl rfl ?_
            refine zx_ws (ws' := [(a, .inr (2, [.ref na, .ref sa, .ref la, .ref ia, .int (nI (made + (zd_len m (zcode ft n pl b) (zd_rl rl x ll fr)))), .int (nI made), .int (nI (zd_len m (zcode ft n pl b) (zd_rl rl x ll fr)))])), (na, .inr (0, [.int (nI m), .int (nI (zn_b b x fr)), .int (nI (zn_x x fr)), .int 0])), (sa, .inl (cI, 4096, .inl (zf (zd_rs rs x ls fr)))), (la, .inl (cI, 4096, .inl (zf (zd_rl rl x ll fr)))), (t, .inl (cB, 16384, .inl ft)), (ia, .inl (cB, 16384, .inl (zd_out m (zcode ft n pl b) f made (zd_rs rs x ls fr) (zd_rl rl x ll fr))))]) [1, 2, 3, 4, 0, 5] (by decide) rfl ?_
            refine zx_iinc (pc := 126) C d_UN_read_126 8 rfl (v := (nI (cd + 1))) (e126 c35 c50 c90 c107 hc123) (by decide) (lv' := [(7, .int (nI (cd + 1))), (6, .int (nI (pl + b))), (8, .int (nI (zcode ft n pl b))), (0, .ref a), (1, .ref t), (2, .int (nI n)), (3, .int (nI m)), (4, .ref ia), (5, .int (nI (8 * n)))]) rfl ?_
            refine zx_goto (pc := 129) C 31 d_UN_read_129 (by decide) ?_
            refine zx_lv (lv' := [(0, .ref a), (1, .ref t), (2, .int (nI n)), (3, .int (nI m)), (4, .ref ia), (5, .int (nI (8 * n))), (6, .int (nI (pl + b))), (7, .int (nI (cd + 1)))]) [3, 4, 5, 6, 7, 8, 1, 0] rfl ?_
            exact k31 c35 c50 c90 c107 hc123
        · refine zx_aload_n (pc := 110) C d_UN_read_110 rfl 2 rfl ?_
          refine zx_get (pc := 111) (ci := 2) (Cn := R_UN) (T := T_UN) (N := 7) (v := .ref na) C zu_UN 0 rfl rfl 0 (by decide) zw_63 rfl rfl d_UN_read_111 ?_
          refine zx_callV (pc := 114) (ix := 57) (As := []) (b := na) (q0 := 1) (wr := [(a, .inr (2, [.ref na, .ref sa, .ref la, .ref ia, .int (nI made), .int (nI ls), .int (nI ll)])), (sa, .inl (cI, 4096, .inl (zf rs))), (la, .inl (cI, 4096, .inl (zf rl))), (t, .inl (cB, 16384, .inl ft)), (ia, .inl (cB, 16384, .inl f))]) (st := []) C (zx_cw.of (C.w zw_285)) (by decide +kernel) ⟨by decide +kernel, by decide +kernel⟩ zw_283 zw_284 zw_297 rfl rfl rfl rfl rfl (k_NU_beginAnew l D cB cI cL (zr 0 0 0) na m (nI b) (nI x) (zb fr) (by omega)) rfl [1] [0, 2, 3, 4, 5] rfl rfl (by decide) (by decide) (by decide) (Nat.le_of_ble_eq_true rfl) (Nat.le_of_ble_eq_true rfl) (Nat.le_of_ble_eq_true rfl) (Nat.le_of_ble_eq_true rfl) d_UN_read_114 (fun o w1 hp => ?_)
          obtain ⟨rfl, rfl⟩ := hp
          refine zx_rv (k2 := 0) (n2 := 0) rfl rfl ?_
          refine zx_ws (ws' := [(a, .inr (2, [.ref na, .ref sa, .ref la, .ref ia, .int (nI made), .int (nI ls), .int (nI ll)])), (na, .inr (0, [.int (nI m), .int (nI (m + 1)), .int (nI (2 ^ m + 2)), .int 1])), (sa, .inl (cI, 4096, .inl (zf rs))), (la, .inl (cI, 4096, .inl (zf rl))), (t, .inl (cB, 16384, .inl ft)), (ia, .inl (cB, 16384, .inl f))]) [0, 5, 1, 2, 3, 4] (by decide) rfl ?_
          refine zx_goto (pc := 117) C 126 d_UN_read_117 (by decide) ?_
          refine zx_iinc (pc := 126) C d_UN_read_126 8 rfl (v := (nI (cd + 1))) (e126_2 c35 c50 c90 c107) (by decide) (lv' := [(7, .int (nI (cd + 1))), (6, .int (nI (pl + b))), (8, .int (nI (zcode ft n pl b))), (0, .ref a), (1, .ref t), (2, .int (nI n)), (3, .int (nI m)), (4, .ref ia), (5, .int (nI (8 * n)))]) rfl ?_
          refine zx_goto (pc := 129) C 31 d_UN_read_129 (by decide) ?_
          refine zx_lv (lv' := [(0, .ref a), (1, .ref t), (2, .int (nI n)), (3, .int (nI m)), (4, .ref ia), (5, .int (nI (8 * n))), (6, .int (nI (pl + b))), (7, .int (nI (cd + 1)))]) [3, 4, 5, 6, 7, 8, 1, 0] rfl ?_
          exact k31_2 c35 c50 c90 c107
      · refine zx_aload_n (pc := 93) C d_UN_read_93 rfl 2 rfl ?_
        refine zx_get (pc := 94) (ci := 2) (Cn := R_UN) (T := T_UN) (N := 7) (v := .int (nI made)) C zu_UN 0 rfl rfl 4 (by decide) zw_67 rfl rfl d_UN_read_94 ?_
        exact zx_iret (pc := 97) C hr9 hlk9 (Nat.zero_le _) (Nat.zero_le _) d_UN_read_97 (r97 c35 c50 c90)

/-- what read gives, by the reader's function r -/
def zp_read (a na sa la t ia : Nat) (ft : Nat → Int32) (r : Nat × Nat × (Nat → Int32)) (cB cI : ClassId) : Outcome → va_W → Prop := fun o w =>
  (∃ (m1 b1 x1 f1 k1 k2 k3 : Int32) (rs rl : Nat → Nat) (f : Nat → Int32), ((∀ j, vp_nar .byte (f j) = f j) ∧ r.1 = 0 ∧ f = r.2.2) ∧ o = .returned (some (.int (nI r.2.1))) ∧ w = [(a, .inr (2, [.ref na, .ref sa, .ref la, .ref ia, .int k1, .int k2, .int k3])), (na, .inr (0, [.int m1, .int b1, .int x1, .int f1])), (sa, .inl (cI, 4096, .inl (zf rs))), (la, .inl (cI, 4096, .inl (zf rl))), (t, .inl (cB, 16384, .inl ft)), (ia, .inl (cB, 16384, .inl f))]) ∨
  (∃ (m1 b1 x1 f1 k1 k2 k3 : Int32) (rs rl : Nat → Nat) (f : Nat → Int32), ((∀ j, vp_nar .byte (f j) = f j) ∧ r.1 = 2) ∧ ∃ x0 : Nat, o = .threw x0 ∧ w = [(a, .inr (2, [.ref na, .ref sa, .ref la, .ref ia, .int k1, .int k2, .int k3])), (na, .inr (0, [.int m1, .int b1, .int x1, .int f1])), (sa, .inl (cI, 4096, .inl (zf rs))), (la, .inl (cI, 4096, .inl (zf rl))), (t, .inl (cB, 16384, .inl ft)), (ia, .inl (cB, 16384, .inl f)), (x0, .inr (7, []))]) ∨
  (∃ (m1 b1 x1 f1 k1 k2 k3 : Int32) (rs rl : Nat → Nat) (f : Nat → Int32), ((∀ j, vp_nar .byte (f j) = f j) ∧ r.1 = 3) ∧ ∃ x0 : Nat, o = .threw x0 ∧ w = [(a, .inr (2, [.ref na, .ref sa, .ref la, .ref ia, .int k1, .int k2, .int k3])), (na, .inr (0, [.int m1, .int b1, .int x1, .int f1])), (sa, .inl (cI, 4096, .inl (zf rs))), (la, .inl (cI, 4096, .inl (zf rl))), (t, .inl (cB, 16384, .inl ft)), (ia, .inl (cB, 16384, .inl f)), (x0, .inr (8, []))])
set_option maxHeartbeats 2000000 in
theorem k_UN_read (l : Launch) (D : va_G) (cB cI cL : ClassId) (hl : l.stackTraces = false) (a na sa la i0 t ia m n ls ll : Nat) (rs0 rl0 : Nat → Nat) (ft f0 : Nat → Int32) (m9 b9 x9 f9 made9 : Int32) (hm : 2 ≤ m ∧ m ≤ 8) (hn : n ≤ 16384) (hby0 : ∀ j, vp_nar .byte (f0 j) = f0 j) : zx_K l zB D zcl (zt cB cI cL) y_UN_read b_UN_read 9 (some .int) [] 0 0 (zr 9 1 6) [.ref a, .ref t, .int (nI n), .int (nI m), .ref ia] [(a, .inr (2, [.ref na, .ref sa, .ref la, .ref i0, .int made9, .int (nI ls), .int (nI ll)])), (na, .inr (0, [.int m9, .int b9, .int x9, .int f9])), (sa, .inl (cI, 4096, .inl (zf rs0))), (la, .inl (cI, 4096, .inl (zf rl0))), (t, .inl (cB, 16384, .inl ft)), (ia, .inl (cB, 16384, .inl f0))] (zp_read a na sa la t ia ft (zd_run m (zcode ft n) (8 * n) (8 * n) 0 (m + 1) (2 ^ m + 2) true ls ll rs0 rl0 f0 0) cB cI) := by
  refine zx_K.mk (Nat.le_of_ble_eq_true rfl) (fun p e s mm below meth c9 C hr hlk ht hnm => ?_)
  have hp8 := zp_pow8 hm.2
  have loop : ∀ (d cd pl b x : Nat) (fr : Bool) (ls1 ll1 : Nat) (rs rl : Nat → Nat) (f : Nat → Int32) (made : Nat), cd + d = 8 * n → pl ≤ 8 * n → zd_inv m b x fr ls1 ll1 rs rl f made → zd_run m (zcode ft n) (8 * n) d pl b x fr ls1 ll1 rs rl f made = (zd_run m (zcode ft n) (8 * n) (8 * n) 0 (m + 1) (2 ^ m + 2) true ls ll rs0 rl0 f0 0) → zx_At p l e (zr 9 1 6) s mm (([.ref a, .ref t, .int (nI n), .int (nI m), .ref ia] : List Value)).toArray below meth c9 (zx_Q below s D zcl [(a, .inr (2, [.ref na, .ref sa, .ref la, .ref i0, .int made9, .int (nI ls), .int (nI ll)])), (na, .inr (0, [.int m9, .int b9, .int x9, .int f9])), (sa, .inl (cI, 4096, .inl (zf rs0))), (la, .inl (cI, 4096, .inl (zf rl0))), (t, .inl (cB, 16384, .inl ft)), (ia, .inl (cB, 16384, .inl f0))] 0 0 (zr 9 1 6) (zp_read a na sa la t ia ft (zd_run m (zcode ft n) (8 * n) (8 * n) 0 (m + 1) (2 ^ m + 2) true ls ll rs0 rl0 f0 0) cB cI)) D zcl (va_A [(a, .inr (2, [.ref na, .ref sa, .ref la, .ref i0, .int made9, .int (nI ls), .int (nI ll)])), (na, .inr (0, [.int m9, .int b9, .int x9, .int f9])), (sa, .inl (cI, 4096, .inl (zf rs0))), (la, .inl (cI, 4096, .inl (zf rl0))), (t, .inl (cB, 16384, .inl ft)), (ia, .inl (cB, 16384, .inl f0))] s.heap.size) 9 [(0, .ref a), (1, .ref t), (2, .int (nI n)), (3, .int (nI m)), (4, .ref ia), (5, .int (nI (8 * n))), (6, .int (nI pl)), (7, .int (nI cd))] [(a, .inr (2, [.ref na, .ref sa, .ref la, .ref ia, .int (nI made), .int (nI ls1), .int (nI ll1)])), (na, .inr (0, [.int (nI m), .int (nI b), .int (nI x), .int (zb fr)])), (sa, .inl (cI, 4096, .inl (zf rs))), (la, .inl (cI, 4096, .inl (zf rl))), (t, .inl (cB, 16384, .inl ft)), (ia, .inl (cB, 16384, .inl f))] 0 0 31 [] := by
    intro d
    induction d with
    | zero =>
      intro cd pl b x fr ls1 ll1 rs rl f made hd hpl hi hrun
      have key : nI (8 * n) ≤ nI cd := by rw [show cd = 8 * n by omega]; exact Int32.le_refl _
      have hi2 := hi
      obtain ⟨i1, i2, i3, i4, i5, i6⟩ := hi2
      have hp12 := zp_pow12 i1.2
      have hcl : zcode ft n pl b < 2 ^ b := Nat.mod_lt _ (Nat.pow_pos (by decide))
      have key9 : nI (8 * n) < nI (pl + b) ↔ 8 * n < pl + b := nI_ltI (by omega) (by omega)
      have kE : nI (zcode ft n pl b) = nI (2 ^ m + 1) ↔ zcode ft n pl b = 2 ^ m + 1 := nI_eq (by omega) (by omega)
      have kB : nI (zcode ft n pl b) = nI (2 ^ m) ↔ zcode ft n pl b = 2 ^ m := nI_eq (by omega) (by omega)
      rw [zd_run] at hrun
      exact sg_UN_read31 C hn hm.2 i1.2 i2.2 i3 i4 (by omega) (fun z => by have := mt key9.mpr z; omega) (fun z1 z2 z3 z4 => zd_row hi z3 (by have := mt kE.mpr z1; have := mt kB.mpr z2; omega)) hr hlk hl ht (fun _ x0 => Or.inr (Or.inl ⟨_, _, _, _, _, _, _, rs, rl, f, ⟨i4, by rw [← hrun]⟩, x0, rfl, rfl⟩)) (fun z => absurd key z) (fun z => absurd key z) (fun z => absurd key z) (fun z => absurd key z) (fun z => absurd key z) (fun z => absurd key z) (fun z => absurd key z) (fun z => absurd key z) (fun z => absurd key z) (fun z => absurd key z)
    | succ d ih =>
      intro cd pl b x fr ls1 ll1 rs rl f made hd hpl hi hrun
      have hi2 := hi
      obtain ⟨i1, i2, i3, i4, i5, i6⟩ := hi2
      have hp12 := zp_pow12 i1.2
      have hcl : zcode ft n pl b < 2 ^ b := Nat.mod_lt _ (Nat.pow_pos (by decide))
      have nk : ¬ nI (8 * n) ≤ nI cd := fun z => absurd ((nI_leI (by omega) (by omega)).mp z) (by omega)
      have key9 : nI (8 * n) < nI (pl + b) ↔ 8 * n < pl + b := nI_ltI (by omega) (by omega)
      have kE : nI (zcode ft n pl b) = nI (2 ^ m + 1) ↔ zcode ft n pl b = 2 ^ m + 1 := nI_eq (by omega) (by omega)
      have kB : nI (zcode ft n pl b) = nI (2 ^ m) ↔ zcode ft n pl b = 2 ^ m := nI_eq (by omega) (by omega)
      rw [zd_run] at hrun
      refine sg_UN_read31 C hn hm.2 i1.2 i2.2 i3 i4 (by omega) (fun z => by have := mt key9.mpr z; omega) (fun z1 z2 z3 z4 => zd_row hi z3 (by have := mt kE.mpr z1; have := mt kB.mpr z2; omega)) hr hlk hl ht (fun z => absurd z nk) (fun _ => nI_add _ _) (fun _ z x0 => ?_) (fun _ _ => nI_add _ _) (fun _ z1 z2 z3 z4 x0 => ?_) (fun _ z1 z2 z3 z4 x0 => ?_) (fun _ _ _ _ _ => nI_1 cd) (fun _ z1 z2 z3 z4 => ?_) (fun _ _ _ _ => nI_1 cd) (fun _ z1 z2 z3 => ?_) (fun _ z1 z2 => ?_)
      · rw [if_neg (by have := key9.mp z; omega)] at hrun
        exact Or.inr (Or.inl ⟨_, _, _, _, _, _, _, rs, rl, f, ⟨i4, by rw [← hrun]⟩, x0, rfl, rfl⟩)
      · have g1 := mt key9.mpr z1
        rw [if_pos (by omega), if_neg (mt kE.mpr z2), if_neg (mt kB.mpr z3), if_pos z4] at hrun
        exact Or.inr (Or.inl ⟨_, _, _, _, _, _, _, _, _, f, ⟨i4, by rw [← hrun]⟩, x0, rfl, rfl⟩)
      · have g1 := mt key9.mpr z1
        rw [if_pos (by omega), if_neg (mt kE.mpr z2), if_neg (mt kB.mpr z3), if_neg (by omega), if_pos z4.2] at hrun
        exact Or.inr (Or.inr ⟨_, _, _, _, _, _, _, _, _, f, ⟨i4, by rw [← hrun]⟩, x0, rfl, rfl⟩)
      · have g1 := mt key9.mpr z1
        rw [if_pos (by omega), if_neg (mt kE.mpr z2), if_neg (mt kB.mpr z3), if_neg (by omega), if_neg (by omega)] at hrun
        exact ih (cd + 1) (pl + b) _ _ false made _ _ _ _ _ (by omega) (by omega) (zd_inv_next hi z4.2) hrun
      · have g1 := mt key9.mpr z1
        rw [if_pos (by omega), if_neg (mt kE.mpr z2), if_pos (kB.mp z3)] at hrun
        exact ih (cd + 1) (pl + b) (m + 1) (2 ^ m + 2) true ls1 ll1 rs rl f made (by omega) (by omega) (zd_inv_new hm i3 i4) hrun
      · have g1 := mt key9.mpr z1
        rw [if_pos (by omega), if_pos (kE.mp z2)] at hrun
        exact Or.inl ⟨_, _, _, _, _, _, _, rs, rl, f, ⟨i4, by rw [← hrun], by rw [← hrun]⟩, by rw [← hrun], rfl⟩
  exact sg_UN_read0 C (by omega) (pk_mul 8 n) (loop (8 * n) 0 0 (m + 1) (2 ^ m + 2) true ls ll rs0 rl0 f0 0 (by omega) (by omega) (zd_inv_new hm (by omega) hby0) rfl)
