/-- a row as the model has it: len steps back from c, the indices σ -/
def zch (bf li : Nat → Int32) (top : Nat) : Nat → Nat → (Nat → Nat) → Prop
  | 0, _, _ => False
  | 1, c, σ => c < top ∧ bf c = -1 ∧ li c = nI (σ 0) ∧ c = σ 0
  | len + 2, c, σ => c < top ∧ ∃ c', bf c = nI c' ∧ li c = nI (σ (len + 1)) ∧ zch bf li top (len + 1) c' σ
theorem zch_pos {bf li : Nat → Int32} {top len c : Nat} {σ : Nat → Nat} (h : zch bf li top len c σ) : 1 ≤ len := by
  cases len with
  | zero => exact h.elim
  | succ k => omega
theorem zch_lt {bf li : Nat → Int32} {top : Nat} : ∀ {len c : Nat} {σ : Nat → Nat}, zch bf li top len c σ → c < top
  | 0, _, _, h => h.elim
  | 1, _, _, h => h.1
  | _ + 2, _, _, h => h.1
theorem zch_li {bf li : Nat → Int32} {top : Nat} : ∀ {len c : Nat} {σ : Nat → Nat}, zch bf li top (len + 1) c σ → li c = nI (σ len)
  | 0, _, _, h => h.2.2.1
  | _ + 1, _, _, h => by obtain ⟨_, _, _, h2, _⟩ := h; exact h2
theorem zch_congr {bf li : Nat → Int32} {top : Nat} : ∀ {len c : Nat} {σ τ : Nat → Nat}, (∀ k, k < len → σ k = τ k) → zch bf li top len c σ → zch bf li top len c τ
  | 0, _, _, _, _, h => h.elim
  | 1, _, _, _, e, h => by
    obtain ⟨h1, h2, h3, h4⟩ := h
    have e0 := e 0 (by omega)
    exact ⟨h1, h2, by rw [← e0]; exact h3, by rw [← e0]; exact h4⟩
  | len + 2, _, _, _, e, h => by
    obtain ⟨h1, c', h2, h3, h4⟩ := h
    exact ⟨h1, c', h2, by rw [← e (len + 1) (by omega)]; exact h3, zch_congr (fun k hk => e k (by omega)) h4⟩
theorem zch_upd {bf li : Nat → Int32} {top : Nat} {v w : Int32} : ∀ {len c : Nat} {σ : Nat → Nat}, zch bf li top len c σ → zch (upd bf top v) (upd li top w) (top + 1) len c σ
  | 0, _, _, h => h.elim
  | 1, _, _, h => by
    obtain ⟨h1, h2, h3, h4⟩ := h
    exact ⟨by omega, by rw [pk_un (by omega)]; exact h2, by rw [pk_un (by omega)]; exact h3, h4⟩
  | len + 2, _, _, h => by
    obtain ⟨h1, c', h2, h3, h4⟩ := h
    exact ⟨by omega, c', by rw [pk_un (by omega)]; exact h2, by rw [pk_un (by omega)]; exact h3, zch_upd h4⟩
theorem zch_new {bf li : Nat → Int32} {top ll la : Nat} {σ τ : Nat → Nat} (h : zch bf li top ll la σ) (e : ∀ k, k < ll → τ k = σ k) : zch (upd bf top (nI la)) (upd li top (nI (τ ll))) (top + 1) (ll + 1) top τ := by
  cases ll with
  | zero => exact h.elim
  | succ k => exact ⟨by omega, la, pk_us, pk_us, zch_congr (fun j hj => (e j hj).symm) (zch_upd h)⟩
/-- σ written at made, from lo on -/
def zgv (g : Nat → Int32) (made : Nat) (σ : Nat → Nat) (lo len : Nat) : Nat → Int32 := fun j => if made + lo ≤ j ∧ j < made + len then zby (σ (j - made)) else g j
theorem zgv_e (g : Nat → Int32) (made : Nat) (σ : Nat → Nat) (len : Nat) : zgv g made σ len len = g := by
  funext j
  exact if_neg (by omega)
theorem zgv_s (g : Nat → Int32) (made : Nat) (σ : Nat → Nat) {k len : Nat} (hk : k < len) : upd (zgv g made σ (k + 1) len) (made + k) (vp_nar .byte (zby (σ k))) = zgv g made σ k len := by
  funext j
  rw [zby_nar]
  unfold upd zgv
  by_cases q : j = made + k
  · rw [if_pos q, if_pos (by omega)]
    congr 2
    omega
  · rw [if_neg q]
    by_cases q2 : made + (k + 1) ≤ j ∧ j < made + len
    · rw [if_pos q2, if_pos (by omega)]
    · rw [if_neg q2, if_neg (by omega)]
set_option maxRecDepth 100000 in
set_option maxHeartbeats 4000000 in
theorem sg_MO_first0 {p : Program} {l : Launch} {e : Env} {R : Room} {s : State} {mi : MethodId} {args : Array Value} {below : List Frame} {meth : Method} {co : Code} {D : va_G} {cB cI cL : ClassId} {Q : State → Prop} {A : Nat → Prop} (C : zx_C p s mi args co b_MO_firstOf 3 R_MO zB D zcl (zt cB cI cL) A) {ma tp rp dp wp op bp lp ep kp tn rn : Nat} {fl dn wn ba on bb bc cw cx cf : Int32} {c0 : Nat} {bf : Nat → Int32} (k2 : zx_At p l e R s mi args below meth co Q D zcl A 3 [(0, .ref ma), (1, .int (nI c0)), (2, .int (nI c0))] [(ma, .inr (5, [.int fl, .ref tp, .int (nI tn), .ref rp, .int (nI rn), .ref dp, .int dn, .ref wp, .int wn, .int ba, .ref op, .int on, .ref bp, .ref lp, .ref ep, .int bb, .int bc, .int cw, .int cx, .int cf, .ref kp])), (bp, .inl (cI, 4096, .inl bf))] 0 0 2 []) : zx_At p l e R s mi args below meth co Q D zcl A 3 [(0, .ref ma), (1, .int (nI c0))] [(ma, .inr (5, [.int fl, .ref tp, .int (nI tn), .ref rp, .int (nI rn), .ref dp, .int dn, .ref wp, .int wn, .int ba, .ref op, .int on, .ref bp, .ref lp, .ref ep, .int bb, .int bc, .int cw, .int cx, .int cf, .ref kp])), (bp, .inl (cI, 4096, .inl bf))] 0 0 0 [] := by
  refine zx_iload_n (pc := 0) C d_MO_firstOf_0 rfl 1 rfl ?_
  refine zx_istore_n (pc := 1) C d_MO_firstOf_1 rfl (by decide) (lv' := [(2, .int (nI c0)), (0, .ref ma), (1, .int (nI c0))]) rfl ?_
  refine zx_lv (lv' := [(0, .ref ma), (1, .int (nI c0)), (2, .int (nI c0))]) [1, 2, 0] rfl ?_
  exact k2

set_option maxRecDepth 100000 in
set_option maxHeartbeats 4000000 in
theorem sg_MO_first2 {p : Program} {l : Launch} {e : Env} {R : Room} {s : State} {mi : MethodId} {args : Array Value} {below : List Frame} {meth : Method} {co : Code} {D : va_G} {cB cI cL : ClassId} {w0 : va_W} {kr nr : Nat} {post : Outcome → va_W → Prop} (C : zx_C p s mi args co b_MO_firstOf 3 R_MO zB D zcl (zt cB cI cL) (va_A w0 s.heap.size)) {ma tp rp dp wp op bp lp ep kp tn rn : Nat} {fl dn wn ba on bb bc cw cx cf : Int32} {c0 c c2 : Nat} {bf : Nat → Int32} (hr9 : meth.sig.returnType = some .int) (hlk9 : meth.locks = false) (b7 : (nI c) = nI c ∧ c < 4096) (r22 : ((bf c) < 0) → post (.returned (some (.int (nI c)))) [(ma, .inr (5, [.int fl, .ref tp, .int (nI tn), .ref rp, .int (nI rn), .ref dp, .int dn, .ref wp, .int wn, .int ba, .ref op, .int on, .ref bp, .ref lp, .ref ep, .int bb, .int bc, .int cw, .int cx, .int cf, .ref kp])), (bp, .inl (cI, 4096, .inl bf))]) (b16 : (¬ (bf c) < 0) → (nI c) = nI c ∧ c < 4096) (e16 : (¬ (bf c) < 0) → (bf c) = (nI c2)) (k2 : (¬ (bf c) < 0) → zx_At p l e R s mi args below meth co (zx_Q below s D zcl w0 kr nr R post) D zcl (va_A w0 s.heap.size) 3 [(0, .ref ma), (1, .int (nI c0)), (2, .int (nI c2))] [(ma, .inr (5, [.int fl, .ref tp, .int (nI tn), .ref rp, .int (nI rn), .ref dp, .int dn, .ref wp, .int wn, .int ba, .ref op, .int on, .ref bp, .ref lp, .ref ep, .int bb, .int bc, .int cw, .int cx, .int cf, .ref kp])), (bp, .inl (cI, 4096, .inl bf))] 0 0 2 []) : zx_At p l e R s mi args below meth co (zx_Q below s D zcl w0 kr nr R post) D zcl (va_A w0 s.heap.size) 3 [(0, .ref ma), (1, .int (nI c0)), (2, .int (nI c))] [(ma, .inr (5, [.int fl, .ref tp, .int (nI tn), .ref rp, .int (nI rn), .ref dp, .int dn, .ref wp, .int wn, .int ba, .ref op, .int on, .ref bp, .ref lp, .ref ep, .int bb, .int bc, .int cw, .int cx, .int cf, .ref kp])), (bp, .inl (cI, 4096, .inl bf))] 0 0 2 [] := by
  refine zx_aload_n (pc := 2) C d_MO_firstOf_2 rfl 0 rfl ?_
  refine zx_get (pc := 3) (ci := 5) (Cn := R_MO) (T := T_MO) (N := 21) (v := .ref bp) C zu_MO 0 rfl rfl 12 (by decide) zw_715 rfl rfl d_MO_firstOf_3 ?_
  refine zx_iload_n (pc := 6) C d_MO_firstOf_6 rfl 2 rfl ?_
  refine zx_iald (pc := 7) C 1 1 rfl rfl c (b7).1 (b7).2 (by decide) d_MO_firstOf_7 ?_
  refine zx_if_lt (pc := 8) C 21 d_MO_firstOf_8 (by decide) (fun c8 => ?_) (fun c8 => ?_)
  · refine zx_iload_n (pc := 21) C d_MO_firstOf_21 rfl 2 rfl ?_
    exact zx_iret (pc := 22) C hr9 hlk9 (Nat.zero_le _) (Nat.zero_le _) d_MO_firstOf_22 (r22 c8)
  · refine zx_aload_n (pc := 11) C d_MO_firstOf_11 rfl 0 rfl ?_
    refine zx_get (pc := 12) (ci := 5) (Cn := R_MO) (T := T_MO) (N := 21) (v := .ref bp) C zu_MO 0 rfl rfl 12 (by decide) zw_715 rfl rfl d_MO_firstOf_12 ?_
    refine zx_iload_n (pc := 15) C d_MO_firstOf_15 rfl 2 rfl ?_
    refine zx_iald (pc := 16) C 1 1 rfl rfl c (b16 c8).1 (b16 c8).2 (by decide) d_MO_firstOf_16 ?_
    refine zx_seti (nI c2) (e16 c8) ?_
    refine zx_istore_n (pc := 17) C d_MO_firstOf_17 rfl (by decide) (lv' := [(2, .int (nI c2)), (0, .ref ma), (1, .int (nI c0))]) rfl ?_
    refine zx_goto (pc := 18) C 2 d_MO_firstOf_18 (by decide) ?_
    refine zx_lv (lv' := [(0, .ref ma), (1, .int (nI c0)), (2, .int (nI c2))]) [1, 2, 0] rfl ?_
    exact k2 c8

theorem k_MO_firstOf (l : Launch) (D : va_G) (cB cI cL : ClassId) (R : Room) (ma tp rp dp wp op bp lp ep kp tn rn c0 len top : Nat) (fl dn wn ba on bb bc cw cx cf : Int32) (bf li : Nat → Int32) (σ : Nat → Nat) (h : zch bf li top len c0 σ) (ht4 : top ≤ 4096) : zx_K l zB D zcl (zt cB cI cL) y_MO_firstOf b_MO_firstOf 3 (some .int) [] 0 0 R [.ref ma, .int (nI c0)] [(ma, .inr (5, [.int fl, .ref tp, .int (nI tn), .ref rp, .int (nI rn), .ref dp, .int dn, .ref wp, .int wn, .int ba, .ref op, .int on, .ref bp, .ref lp, .ref ep, .int bb, .int bc, .int cw, .int cx, .int cf, .ref kp])), (bp, .inl (cI, 4096, .inl bf))] (fun o w => o = .returned (some (.int (nI (σ 0)))) ∧ w = [(ma, .inr (5, [.int fl, .ref tp, .int (nI tn), .ref rp, .int (nI rn), .ref dp, .int dn, .ref wp, .int wn, .int ba, .ref op, .int on, .ref bp, .ref lp, .ref ep, .int bb, .int bc, .int cw, .int cx, .int cf, .ref kp])), (bp, .inl (cI, 4096, .inl bf))]) := by
  refine zx_K.mk (Nat.le_of_ble_eq_true rfl) (fun p e s mm below meth c9 C hr hlk ht hnm => ?_)
  have loop : ∀ (len c : Nat), zch bf li top len c σ → zx_At p l e R s mm (([.ref ma, .int (nI c0)] : List Value)).toArray below meth c9 (zx_Q below s D zcl [(ma, .inr (5, [.int fl, .ref tp, .int (nI tn), .ref rp, .int (nI rn), .ref dp, .int dn, .ref wp, .int wn, .int ba, .ref op, .int on, .ref bp, .ref lp, .ref ep, .int bb, .int bc, .int cw, .int cx, .int cf, .ref kp])), (bp, .inl (cI, 4096, .inl bf))] 0 0 R (fun o w => o = .returned (some (.int (nI (σ 0)))) ∧ w = [(ma, .inr (5, [.int fl, .ref tp, .int (nI tn), .ref rp, .int (nI rn), .ref dp, .int dn, .ref wp, .int wn, .int ba, .ref op, .int on, .ref bp, .ref lp, .ref ep, .int bb, .int bc, .int cw, .int cx, .int cf, .ref kp])), (bp, .inl (cI, 4096, .inl bf))])) D zcl (va_A [(ma, .inr (5, [.int fl, .ref tp, .int (nI tn), .ref rp, .int (nI rn), .ref dp, .int dn, .ref wp, .int wn, .int ba, .ref op, .int on, .ref bp, .ref lp, .ref ep, .int bb, .int bc, .int cw, .int cx, .int cf, .ref kp])), (bp, .inl (cI, 4096, .inl bf))] s.heap.size) 3 [(0, .ref ma), (1, .int (nI c0)), (2, .int (nI c))] [(ma, .inr (5, [.int fl, .ref tp, .int (nI tn), .ref rp, .int (nI rn), .ref dp, .int dn, .ref wp, .int wn, .int ba, .ref op, .int on, .ref bp, .ref lp, .ref ep, .int bb, .int bc, .int cw, .int cx, .int cf, .ref kp])), (bp, .inl (cI, 4096, .inl bf))] 0 0 2 [] := by
    intro len
    induction len with
    | zero => intro c h; exact h.elim
    | succ k ih =>
      intro c h
      have hc := zch_lt h
      cases k with
      | zero =>
        obtain ⟨h1, h2, h3, h4⟩ := h
        have key : bf c < 0 := by rw [h2]; decide
        exact sg_MO_first2 (c2 := 0) C hr hlk ⟨rfl, by omega⟩ (fun _ => ⟨by rw [h4], rfl⟩) (fun z => absurd key z) (fun z => absurd key z) (fun z => absurd key z)
      | succ k =>
        obtain ⟨h1, c', h2, h3, h4⟩ := h
        have hc' := zch_lt h4
        have key : ¬ bf c < 0 := by rw [h2]; exact nI_pos (by omega)
        exact sg_MO_first2 (c2 := c') C hr hlk ⟨rfl, by omega⟩ (fun z => absurd z key) (fun _ => ⟨rfl, by omega⟩) (fun _ => h2) (fun _ => ih c' h4)
  exact sg_MO_first0 C (loop len c0 h)
set_option maxRecDepth 100000 in
set_option maxHeartbeats 4000000 in
theorem sg_MO_give0 {p : Program} {l : Launch} {e : Env} {s : State} {mi : MethodId} {args : Array Value} {below : List Frame} {meth : Method} {co : Code} {D : va_G} {cB cI cL : ClassId} {w0 : va_W} {kr nr : Nat} {post : Outcome → va_W → Prop} (C : zx_C p s mi args co b_MO_giveRow 5 R_MO zB D zcl (zt cB cI cL) (va_A w0 s.heap.size)) {ma tp rp dp wp op bp lp ep kp tn rn made c0 len : Nat} {fl dn ba on bb bc cw cx cf : Int32} {rw bf li de : Nat → Int32} (hr9 : meth.sig.returnType = none) (hlk9 : meth.locks = false) (hl9 : l.stackTraces = false) (ht9 : co.exceptionTable.toList.map (fun h => (h.startPc, h.endPc, h.handlerPc, h.catchType)) = []) (b5 : (nI c0) = nI c0 ∧ c0 < 4096) (e5 : (de c0) = (nI len)) (e12 : ((nI made) + (nI len)) = (nI (made + len))) (e31 : ((nI (made + len)) ≤ (16384 : Int32)) → ((nI len) - (1 : Int32)) = (nI (len - 1))) (k34 : ((nI (made + len)) ≤ (16384 : Int32)) → zx_At p l e (zr 8 1 6) s mi args below meth co (zx_Q below s D zcl w0 kr nr (zr 8 1 6) post) D zcl (va_A w0 s.heap.size) 5 [(0, .ref ma), (1, .int (nI c0)), (2, .int (nI len)), (3, .int (nI c0)), (4, .int (nI (len - 1)))] [(ma, .inr (5, [.int fl, .ref tp, .int (nI tn), .ref rp, .int (nI rn), .ref dp, .int dn, .ref wp, .int (nI made), .int ba, .ref op, .int on, .ref bp, .ref lp, .ref ep, .int bb, .int bc, .int cw, .int cx, .int cf, .ref kp])), (wp, .inl (cB, 16384, .inl rw)), (bp, .inl (cI, 4096, .inl bf)), (lp, .inl (cI, 4096, .inl li)), (ep, .inl (cI, 4096, .inl de))] 0 0 34 []) (t19 : (¬ (nI (made + len)) ≤ (16384 : Int32)) → ∀ x9 : Nat, post (.threw x9) [(ma, .inr (5, [.int fl, .ref tp, .int (nI tn), .ref rp, .int (nI rn), .ref dp, .int dn, .ref wp, .int (nI made), .int ba, .ref op, .int on, .ref bp, .ref lp, .ref ep, .int bb, .int bc, .int cw, .int cx, .int cf, .ref kp])), (wp, .inl (cB, 16384, .inl rw)), (bp, .inl (cI, 4096, .inl bf)), (lp, .inl (cI, 4096, .inl li)), (ep, .inl (cI, 4096, .inl de)), (x9, .inr (8, []))]) : zx_At p l e (zr 8 1 6) s mi args below meth co (zx_Q below s D zcl w0 kr nr (zr 8 1 6) post) D zcl (va_A w0 s.heap.size) 5 [(0, .ref ma), (1, .int (nI c0))] [(ma, .inr (5, [.int fl, .ref tp, .int (nI tn), .ref rp, .int (nI rn), .ref dp, .int dn, .ref wp, .int (nI made), .int ba, .ref op, .int on, .ref bp, .ref lp, .ref ep, .int bb, .int bc, .int cw, .int cx, .int cf, .ref kp])), (wp, .inl (cB, 16384, .inl rw)), (bp, .inl (cI, 4096, .inl bf)), (lp, .inl (cI, 4096, .inl li)), (ep, .inl (cI, 4096, .inl de))] 0 0 0 [] := by
  refine zx_aload_n (pc := 0) C d_MO_giveRow_0 rfl 0 rfl ?_
  refine zx_get (pc := 1) (ci := 5) (Cn := R_MO) (T := T_MO) (N := 21) (v := .ref ep) C zu_MO 0 rfl rfl 14 (by decide) zw_717 rfl rfl d_MO_giveRow_1 ?_
  refine zx_iload_n (pc := 4) C d_MO_giveRow_4 rfl 1 rfl ?_
  refine zx_iald (pc := 5) C 4 1 rfl rfl c0 (b5).1 (b5).2 (by decide) d_MO_giveRow_5 ?_
  refine zx_seti (nI len) (e5) ?_
  refine zx_istore_n (pc := 6) C d_MO_giveRow_6 rfl (by decide) (lv' := [(2, .int (nI len)), (0, .ref ma), (1, .int (nI c0))]) rfl ?_
  refine zx_aload_n (pc := 7) C d_MO_giveRow_7 rfl 1 rfl ?_
  refine zx_get (pc := 8) (ci := 5) (Cn := R_MO) (T := T_MO) (N := 21) (v := .int (nI made)) C zu_MO 0 rfl rfl 8 (by decide) zw_711 rfl rfl d_MO_giveRow_8 ?_
  refine zx_iload_n (pc := 11) C d_MO_giveRow_11 rfl 0 rfl ?_
  refine zx_iadd (pc := 12) C d_MO_giveRow_12 ?_
  refine zx_seti (nI (made + len)) (e12) ?_
  refine zx_sipush (pc := 13) C d_MO_giveRow_13 (v := (16384 : Int32)) (by decide) ?_
  refine zx_icmp_le (pc := 16) C 27 d_MO_giveRow_16 (by decide) (fun c16 => ?_) (fun c16 => ?_)
  · refine zx_iload_n (pc := 27) C d_MO_giveRow_27 rfl 2 rfl ?_
    refine zx_istore_n (pc := 28) C d_MO_giveRow_28 rfl (by decide) (lv' := [(3, .int (nI c0)), (2, .int (nI len)), (0, .ref ma), (1, .int (nI c0))]) rfl ?_
    refine zx_iload_n (pc := 29) C d_MO_giveRow_29 rfl 1 rfl ?_
    refine zx_iconst (pc := 30) C d_MO_giveRow_30 (v := (1 : Int32)) (by decide) ?_
    refine zx_isub (pc := 31) C d_MO_giveRow_31 ?_
    refine zx_seti (nI (len - 1)) (e31 c16) ?_
    refine zx_istore (pc := 32) C d_MO_giveRow_32 (by decide) (lv' := [(4, .int (nI (len - 1))), (3, .int (nI c0)), (2, .int (nI len)), (0, .ref ma), (1, .int (nI c0))]) rfl ?_
    refine zx_lv (lv' := [(0, .ref ma), (1, .int (nI c0)), (2, .int (nI len)), (3, .int (nI c0)), (4, .int (nI (len - 1)))]) [3, 4, 2, 1, 0] rfl ?_
    exact k34 c16
  · exact zx_throw0 (pc := 19) (names := zex) (ci := 8) C hl9 (by decide +kernel) zex_fit zw_776 zw_10 zh_MO_62 rfl hlk9 (zx_noTab ht9 _) d_MO_giveRow_19 d_MO_giveRow_22 d_MO_giveRow_23 d_MO_giveRow_26 (Nat.le_of_ble_eq_true rfl) (Nat.le_of_ble_eq_true rfl) (Nat.le_of_ble_eq_true rfl) (Nat.le_of_ble_eq_true rfl) (t19 c16)

set_option maxRecDepth 100000 in
set_option maxHeartbeats 4000000 in
theorem sg_MO_give34 {p : Program} {l : Launch} {e : Env} {R : Room} {s : State} {mi : MethodId} {args : Array Value} {below : List Frame} {meth : Method} {co : Code} {D : va_G} {cB cI cL : ClassId} {w0 : va_W} {kr nr : Nat} {post : Outcome → va_W → Prop} (C : zx_C p s mi args co b_MO_giveRow 5 R_MO zB D zcl (zt cB cI cL) (va_A w0 s.heap.size)) {ma tp rp dp wp op bp lp ep kp tn rn made c0 len c k : Nat} {fl dn ba on bb bc cw cx cf : Int32} {rw bf li de : Nat → Int32} {σ : Nat → Nat} {c9 k9 k8 : Int32} (hr9 : meth.sig.returnType = none) (hlk9 : meth.locks = false) (e77 : (k9 < 0) → ((nI made) + (nI len)) = (nI (made + len))) (r81 : (k9 < 0) → post (.returned none) [(ma, .inr (5, [.int fl, .ref tp, .int (nI tn), .ref rp, .int (nI rn), .ref dp, .int dn, .ref wp, .int (nI (made + len)), .int ba, .ref op, .int on, .ref bp, .ref lp, .ref ep, .int bb, .int bc, .int cw, .int cx, .int cf, .ref kp])), (wp, .inl (cB, 16384, .inl rw)), (bp, .inl (cI, 4096, .inl bf)), (lp, .inl (cI, 4096, .inl li)), (ep, .inl (cI, 4096, .inl de))]) (e49 : (¬ k9 < 0) → ((nI made) + k9) = (nI (made + k))) (b55 : (¬ k9 < 0) → c9 = nI c ∧ c < 4096) (e55 : (¬ k9 < 0) → (li c) = (nI (σ k))) (e56 : (¬ k9 < 0) → ((nI (σ k)).toInt8.toInt32) = (zby (σ k))) (b57 : (¬ k9 < 0) → (nI (made + k)) = nI (made + k) ∧ (made + k) < 16384) (b63 : (¬ k9 < 0) → c9 = nI c ∧ c < 4096) (e65 : (¬ k9 < 0) → k9 + (-1 : Int32) = k8) (k34 : (¬ k9 < 0) → zx_At p l e R s mi args below meth co (zx_Q below s D zcl w0 kr nr R post) D zcl (va_A w0 s.heap.size) 5 [(0, .ref ma), (1, .int (nI c0)), (2, .int (nI len)), (3, .int (bf c)), (4, .int k8)] [(ma, .inr (5, [.int fl, .ref tp, .int (nI tn), .ref rp, .int (nI rn), .ref dp, .int dn, .ref wp, .int (nI made), .int ba, .ref op, .int on, .ref bp, .ref lp, .ref ep, .int bb, .int bc, .int cw, .int cx, .int cf, .ref kp])), (wp, .inl (cB, 16384, .inl (upd rw (made + k) (vp_nar .byte (zby (σ k)))))), (bp, .inl (cI, 4096, .inl bf)), (lp, .inl (cI, 4096, .inl li)), (ep, .inl (cI, 4096, .inl de))] 0 0 34 []) : zx_At p l e R s mi args below meth co (zx_Q below s D zcl w0 kr nr R post) D zcl (va_A w0 s.heap.size) 5 [(0, .ref ma), (1, .int (nI c0)), (2, .int (nI len)), (3, .int c9), (4, .int k9)] [(ma, .inr (5, [.int fl, .ref tp, .int (nI tn), .ref rp, .int (nI rn), .ref dp, .int dn, .ref wp, .int (nI made), .int ba, .ref op, .int on, .ref bp, .ref lp, .ref ep, .int bb, .int bc, .int cw, .int cx, .int cf, .ref kp])), (wp, .inl (cB, 16384, .inl rw)), (bp, .inl (cI, 4096, .inl bf)), (lp, .inl (cI, 4096, .inl li)), (ep, .inl (cI, 4096, .inl de))] 0 0 34 [] := by
  refine zx_iload (pc := 34) C d_MO_giveRow_34 4 rfl ?_
  refine zx_if_lt (pc := 36) C 71 d_MO_giveRow_36 (by decide) (fun c36 => ?_) (fun c36 => ?_)
  · refine zx_aload_n (pc := 71) C d_MO_giveRow_71 rfl 0 rfl ?_
    refine zx_dup (pc := 72) C d_MO_giveRow_72 rfl ?_
    refine zx_get (pc := 73) (ci := 5) (Cn := R_MO) (T := T_MO) (N := 21) (v := .int (nI made)) C zu_MO 0 rfl rfl 8 (by decide) zw_711 rfl rfl d_MO_giveRow_73 ?_
    refine zx_iload_n (pc := 76) C d_MO_giveRow_76 rfl 2 rfl ?_
    refine zx_iadd (pc := 77) C d_MO_giveRow_77 ?_
    refine zx_seti (nI (made + len)) (e77 c36) ?_
    refine zx_put (pc := 78) (ci := 5) (Cn := R_MO) (T := T_MO) (N := 21) (v := .int (nI (made + len))) (ty := .int) (ws' := [(ma, .inr (5, [.int fl, .ref tp, .int (nI tn), .ref rp, .int (nI rn), .ref dp, .int dn, .ref wp, .int (nI (made + len)), .int ba, .ref op, .int on, .ref bp, .ref lp, .ref ep, .int bb, .int bc, .int cw, .int cx, .int cf, .ref kp])), (wp, .inl (cB, 16384, .inl rw)), (bp, .inl (cI, 4096, .inl bf)), (lp, .inl (cI, 4096, .inl li)), (ep, .inl (cI, 4096, .inl de))]) C zu_MO ty_MO tyk_MO nm_MO 0 rfl rfl 8 (by decide) zw_711 rfl rfl (by decide +kernel) rfl rfl (Nat.le_of_ble_eq_true rfl) rfl d_MO_giveRow_78 ?_
    exact zx_vret (pc := 81) C hr9 hlk9 (Nat.zero_le _) (Nat.zero_le _) d_MO_giveRow_81 (r81 c36)
  · refine zx_aload_n (pc := 39) C d_MO_giveRow_39 rfl 0 rfl ?_
    refine zx_get (pc := 40) (ci := 5) (Cn := R_MO) (T := T_MO) (N := 21) (v := .ref wp) C zu_MO 0 rfl rfl 7 (by decide) zw_710 rfl rfl d_MO_giveRow_40 ?_
    refine zx_aload_n (pc := 43) C d_MO_giveRow_43 rfl 0 rfl ?_
    refine zx_get (pc := 44) (ci := 5) (Cn := R_MO) (T := T_MO) (N := 21) (v := .int (nI made)) C zu_MO 0 rfl rfl 8 (by decide) zw_711 rfl rfl d_MO_giveRow_44 ?_
    refine zx_iload (pc := 47) C d_MO_giveRow_47 4 rfl ?_
    refine zx_iadd (pc := 49) C d_MO_giveRow_49 ?_
    refine zx_seti (nI (made + k)) (e49 c36) ?_
    refine zx_aload_n (pc := 50) C d_MO_giveRow_50 rfl 0 rfl ?_
    refine zx_get (pc := 51) (ci := 5) (Cn := R_MO) (T := T_MO) (N := 21) (v := .ref lp) C zu_MO 0 rfl rfl 13 (by decide) zw_716 rfl rfl d_MO_giveRow_51 ?_
    refine zx_iload_n (pc := 54) C d_MO_giveRow_54 rfl 3 rfl ?_
    refine zx_iald (pc := 55) C 3 1 rfl rfl c (b55 c36).1 (b55 c36).2 (by decide) d_MO_giveRow_55 ?_
    refine zx_seti (nI (σ k)) (e55 c36) ?_
    refine zx_i2b (pc := 56) C d_MO_giveRow_56 rfl ?_
    refine zx_seti (zby (σ k)) (e56 c36) ?_
    refine zx_bast (pc := 57) (ws' := [(ma, .inr (5, [.int fl, .ref tp, .int (nI tn), .ref rp, .int (nI rn), .ref dp, .int dn, .ref wp, .int (nI made), .int ba, .ref op, .int on, .ref bp, .ref lp, .ref ep, .int bb, .int bc, .int cw, .int cx, .int cf, .ref kp])), (wp, .inl (cB, 16384, .inl (upd rw (made + k) (vp_nar .byte (zby (σ k)))))), (bp, .inl (cI, 4096, .inl bf)), (lp, .inl (cI, 4096, .inl li)), (ep, .inl (cI, 4096, .inl de))]) C 1 0 rfl rfl (made + k) (b57 c36).1 (b57 c36).2 (by decide) rfl d_MO_giveRow_57 ?_
    refine zx_aload_n (pc := 58) C d_MO_giveRow_58 rfl 0 rfl ?_
    refine zx_get (pc := 59) (ci := 5) (Cn := R_MO) (T := T_MO) (N := 21) (v := .ref bp) C zu_MO 0 rfl rfl 12 (by decide) zw_715 rfl rfl d_MO_giveRow_59 ?_
    refine zx_iload_n (pc := 62) C d_MO_giveRow_62 rfl 3 rfl ?_
    refine zx_iald (pc := 63) C 2 1 rfl rfl c (b63 c36).1 (b63 c36).2 (by decide) d_MO_giveRow_63 ?_
    refine zx_istore_n (pc := 64) C d_MO_giveRow_64 rfl (by decide) (lv' := [(3, .int (bf c)), (0, .ref ma), (1, .int (nI c0)), (2, .int (nI len)), (4, .int k9)]) rfl ?_
    refine zx_iinc (pc := 65) C d_MO_giveRow_65 4 rfl (v := k8) (e65 c36) (by decide) (lv' := [(4, .int k8), (3, .int (bf c)), (0, .ref ma), (1, .int (nI c0)), (2, .int (nI len))]) rfl ?_
    refine zx_goto (pc := 68) C 34 d_MO_giveRow_68 (by decide) ?_
    refine zx_lv (lv' := [(0, .ref ma), (1, .int (nI c0)), (2, .int (nI len)), (3, .int (bf c)), (4, .int k8)]) [2, 3, 4, 1, 0] rfl ?_
    exact k34 c36

theorem k_MO_giveRow (l : Launch) (D : va_G) (cB cI cL : ClassId) (hl : l.stackTraces = false) (ma tp rp dp wp op bp lp ep kp tn rn made c0 len top : Nat) (fl dn ba on bb bc cw cx cf : Int32) (rw bf li de : Nat → Int32) (σ : Nat → Nat) (h : zch bf li top len c0 σ) (ht4 : top ≤ 4096) (hde : de c0 = nI len) (hlen : len ≤ 16385) (hmade : made ≤ 16384) : zx_K l zB D zcl (zt cB cI cL) y_MO_giveRow b_MO_giveRow 5 (none) [] 0 0 (zr 8 1 6) [.ref ma, .int (nI c0)] [(ma, .inr (5, [.int fl, .ref tp, .int (nI tn), .ref rp, .int (nI rn), .ref dp, .int dn, .ref wp, .int (nI made), .int ba, .ref op, .int on, .ref bp, .ref lp, .ref ep, .int bb, .int bc, .int cw, .int cx, .int cf, .ref kp])), (wp, .inl (cB, 16384, .inl rw)), (bp, .inl (cI, 4096, .inl bf)), (lp, .inl (cI, 4096, .inl li)), (ep, .inl (cI, 4096, .inl de))] (fun o w => ((16384 < made + len) ∧ ∃ x0 : Nat, o = .threw x0 ∧ w = [(ma, .inr (5, [.int fl, .ref tp, .int (nI tn), .ref rp, .int (nI rn), .ref dp, .int dn, .ref wp, .int (nI made), .int ba, .ref op, .int on, .ref bp, .ref lp, .ref ep, .int bb, .int bc, .int cw, .int cx, .int cf, .ref kp])), (wp, .inl (cB, 16384, .inl rw)), (bp, .inl (cI, 4096, .inl bf)), (lp, .inl (cI, 4096, .inl li)), (ep, .inl (cI, 4096, .inl de)), (x0, .inr (8, []))]) ∨ ((made + len ≤ 16384) ∧ o = .returned none ∧ w = [(ma, .inr (5, [.int fl, .ref tp, .int (nI tn), .ref rp, .int (nI rn), .ref dp, .int dn, .ref wp, .int (nI (made + len)), .int ba, .ref op, .int on, .ref bp, .ref lp, .ref ep, .int bb, .int bc, .int cw, .int cx, .int cf, .ref kp])), (wp, .inl (cB, 16384, .inl (zgv rw made σ 0 len))), (bp, .inl (cI, 4096, .inl bf)), (lp, .inl (cI, 4096, .inl li)), (ep, .inl (cI, 4096, .inl de))])) := by
  refine zx_K.mk (Nat.le_of_ble_eq_true rfl) (fun p e s mm below meth c9 C hr hlk ht hnm => ?_)
  have h1l := zch_pos h
  have hc0 := zch_lt h
  have key : nI (made + len) ≤ (16384 : Int32) ↔ made + len ≤ 16384 := zp_le (k := 16384) rfl (by omega) (by decide)
  have go : made + len ≤ 16384 → zx_At p l e (zr 8 1 6) s mm (([.ref ma, .int (nI c0)] : List Value)).toArray below meth c9 (zx_Q below s D zcl [(ma, .inr (5, [.int fl, .ref tp, .int (nI tn), .ref rp, .int (nI rn), .ref dp, .int dn, .ref wp, .int (nI made), .int ba, .ref op, .int on, .ref bp, .ref lp, .ref ep, .int bb, .int bc, .int cw, .int cx, .int cf, .ref kp])), (wp, .inl (cB, 16384, .inl rw)), (bp, .inl (cI, 4096, .inl bf)), (lp, .inl (cI, 4096, .inl li)), (ep, .inl (cI, 4096, .inl de))] 0 0 (zr 8 1 6) (fun o w => ((16384 < made + len) ∧ ∃ x0 : Nat, o = .threw x0 ∧ w = [(ma, .inr (5, [.int fl, .ref tp, .int (nI tn), .ref rp, .int (nI rn), .ref dp, .int dn, .ref wp, .int (nI made), .int ba, .ref op, .int on, .ref bp, .ref lp, .ref ep, .int bb, .int bc, .int cw, .int cx, .int cf, .ref kp])), (wp, .inl (cB, 16384, .inl rw)), (bp, .inl (cI, 4096, .inl bf)), (lp, .inl (cI, 4096, .inl li)), (ep, .inl (cI, 4096, .inl de)), (x0, .inr (8, []))]) ∨ ((made + len ≤ 16384) ∧ o = .returned none ∧ w = [(ma, .inr (5, [.int fl, .ref tp, .int (nI tn), .ref rp, .int (nI rn), .ref dp, .int dn, .ref wp, .int (nI (made + len)), .int ba, .ref op, .int on, .ref bp, .ref lp, .ref ep, .int bb, .int bc, .int cw, .int cx, .int cf, .ref kp])), (wp, .inl (cB, 16384, .inl (zgv rw made σ 0 len))), (bp, .inl (cI, 4096, .inl bf)), (lp, .inl (cI, 4096, .inl li)), (ep, .inl (cI, 4096, .inl de))]))) D zcl (va_A [(ma, .inr (5, [.int fl, .ref tp, .int (nI tn), .ref rp, .int (nI rn), .ref dp, .int dn, .ref wp, .int (nI made), .int ba, .ref op, .int on, .ref bp, .ref lp, .ref ep, .int bb, .int bc, .int cw, .int cx, .int cf, .ref kp])), (wp, .inl (cB, 16384, .inl rw)), (bp, .inl (cI, 4096, .inl bf)), (lp, .inl (cI, 4096, .inl li)), (ep, .inl (cI, 4096, .inl de))] s.heap.size) 5 [(0, .ref ma), (1, .int (nI c0)), (2, .int (nI len)), (3, .int (nI c0)), (4, .int (nI (len - 1)))] [(ma, .inr (5, [.int fl, .ref tp, .int (nI tn), .ref rp, .int (nI rn), .ref dp, .int dn, .ref wp, .int (nI made), .int ba, .ref op, .int on, .ref bp, .ref lp, .ref ep, .int bb, .int bc, .int cw, .int cx, .int cf, .ref kp])), (wp, .inl (cB, 16384, .inl (zgv rw made σ len len))), (bp, .inl (cI, 4096, .inl bf)), (lp, .inl (cI, 4096, .inl li)), (ep, .inl (cI, 4096, .inl de))] 0 0 34 [] := by
    intro hle
    have fin : ∀ y9 : Int32, zx_At p l e (zr 8 1 6) s mm (([.ref ma, .int (nI c0)] : List Value)).toArray below meth c9 (zx_Q below s D zcl [(ma, .inr (5, [.int fl, .ref tp, .int (nI tn), .ref rp, .int (nI rn), .ref dp, .int dn, .ref wp, .int (nI made), .int ba, .ref op, .int on, .ref bp, .ref lp, .ref ep, .int bb, .int bc, .int cw, .int cx, .int cf, .ref kp])), (wp, .inl (cB, 16384, .inl rw)), (bp, .inl (cI, 4096, .inl bf)), (lp, .inl (cI, 4096, .inl li)), (ep, .inl (cI, 4096, .inl de))] 0 0 (zr 8 1 6) (fun o w => ((16384 < made + len) ∧ ∃ x0 : Nat, o = .threw x0 ∧ w = [(ma, .inr (5, [.int fl, .ref tp, .int (nI tn), .ref rp, .int (nI rn), .ref dp, .int dn, .ref wp, .int (nI made), .int ba, .ref op, .int on, .ref bp, .ref lp, .ref ep, .int bb, .int bc, .int cw, .int cx, .int cf, .ref kp])), (wp, .inl (cB, 16384, .inl rw)), (bp, .inl (cI, 4096, .inl bf)), (lp, .inl (cI, 4096, .inl li)), (ep, .inl (cI, 4096, .inl de)), (x0, .inr (8, []))]) ∨ ((made + len ≤ 16384) ∧ o = .returned none ∧ w = [(ma, .inr (5, [.int fl, .ref tp, .int (nI tn), .ref rp, .int (nI rn), .ref dp, .int dn, .ref wp, .int (nI (made + len)), .int ba, .ref op, .int on, .ref bp, .ref lp, .ref ep, .int bb, .int bc, .int cw, .int cx, .int cf, .ref kp])), (wp, .inl (cB, 16384, .inl (zgv rw made σ 0 len))), (bp, .inl (cI, 4096, .inl bf)), (lp, .inl (cI, 4096, .inl li)), (ep, .inl (cI, 4096, .inl de))]))) D zcl (va_A [(ma, .inr (5, [.int fl, .ref tp, .int (nI tn), .ref rp, .int (nI rn), .ref dp, .int dn, .ref wp, .int (nI made), .int ba, .ref op, .int on, .ref bp, .ref lp, .ref ep, .int bb, .int bc, .int cw, .int cx, .int cf, .ref kp])), (wp, .inl (cB, 16384, .inl rw)), (bp, .inl (cI, 4096, .inl bf)), (lp, .inl (cI, 4096, .inl li)), (ep, .inl (cI, 4096, .inl de))] s.heap.size) 5 [(0, .ref ma), (1, .int (nI c0)), (2, .int (nI len)), (3, .int y9), (4, .int (-1))] [(ma, .inr (5, [.int fl, .ref tp, .int (nI tn), .ref rp, .int (nI rn), .ref dp, .int dn, .ref wp, .int (nI made), .int ba, .ref op, .int on, .ref bp, .ref lp, .ref ep, .int bb, .int bc, .int cw, .int cx, .int cf, .ref kp])), (wp, .inl (cB, 16384, .inl (zgv rw made σ 0 len))), (bp, .inl (cI, 4096, .inl bf)), (lp, .inl (cI, 4096, .inl li)), (ep, .inl (cI, 4096, .inl de))] 0 0 34 [] := fun y9 => by
      have kk : (-1 : Int32) < 0 := by decide
      exact sg_MO_give34 (c := 0) (k := 0) (σ := σ) (k8 := 0) C hr hlk (fun _ => nI_add _ _) (fun _ => Or.inr ⟨hle, rfl, rfl⟩) (fun z => absurd kk z) (fun z => absurd kk z) (fun z => absurd kk z) (fun z => absurd kk z) (fun z => absurd kk z) (fun z => absurd kk z) (fun z => absurd kk z) (fun z => absurd kk z)
    have loop : ∀ (k c : Nat), k < len → zch bf li top (k + 1) c σ → zx_At p l e (zr 8 1 6) s mm (([.ref ma, .int (nI c0)] : List Value)).toArray below meth c9 (zx_Q below s D zcl [(ma, .inr (5, [.int fl, .ref tp, .int (nI tn), .ref rp, .int (nI rn), .ref dp, .int dn, .ref wp, .int (nI made), .int ba, .ref op, .int on, .ref bp, .ref lp, .ref ep, .int bb, .int bc, .int cw, .int cx, .int cf, .ref kp])), (wp, .inl (cB, 16384, .inl rw)), (bp, .inl (cI, 4096, .inl bf)), (lp, .inl (cI, 4096, .inl li)), (ep, .inl (cI, 4096, .inl de))] 0 0 (zr 8 1 6) (fun o w => ((16384 < made + len) ∧ ∃ x0 : Nat, o = .threw x0 ∧ w = [(ma, .inr (5, [.int fl, .ref tp, .int (nI tn), .ref rp, .int (nI rn), .ref dp, .int dn, .ref wp, .int (nI made), .int ba, .ref op, .int on, .ref bp, .ref lp, .ref ep, .int bb, .int bc, .int cw, .int cx, .int cf, .ref kp])), (wp, .inl (cB, 16384, .inl rw)), (bp, .inl (cI, 4096, .inl bf)), (lp, .inl (cI, 4096, .inl li)), (ep, .inl (cI, 4096, .inl de)), (x0, .inr (8, []))]) ∨ ((made + len ≤ 16384) ∧ o = .returned none ∧ w = [(ma, .inr (5, [.int fl, .ref tp, .int (nI tn), .ref rp, .int (nI rn), .ref dp, .int dn, .ref wp, .int (nI (made + len)), .int ba, .ref op, .int on, .ref bp, .ref lp, .ref ep, .int bb, .int bc, .int cw, .int cx, .int cf, .ref kp])), (wp, .inl (cB, 16384, .inl (zgv rw made σ 0 len))), (bp, .inl (cI, 4096, .inl bf)), (lp, .inl (cI, 4096, .inl li)), (ep, .inl (cI, 4096, .inl de))]))) D zcl (va_A [(ma, .inr (5, [.int fl, .ref tp, .int (nI tn), .ref rp, .int (nI rn), .ref dp, .int dn, .ref wp, .int (nI made), .int ba, .ref op, .int on, .ref bp, .ref lp, .ref ep, .int bb, .int bc, .int cw, .int cx, .int cf, .ref kp])), (wp, .inl (cB, 16384, .inl rw)), (bp, .inl (cI, 4096, .inl bf)), (lp, .inl (cI, 4096, .inl li)), (ep, .inl (cI, 4096, .inl de))] s.heap.size) 5 [(0, .ref ma), (1, .int (nI c0)), (2, .int (nI len)), (3, .int (nI c)), (4, .int (nI k))] [(ma, .inr (5, [.int fl, .ref tp, .int (nI tn), .ref rp, .int (nI rn), .ref dp, .int dn, .ref wp, .int (nI made), .int ba, .ref op, .int on, .ref bp, .ref lp, .ref ep, .int bb, .int bc, .int cw, .int cx, .int cf, .ref kp])), (wp, .inl (cB, 16384, .inl (zgv rw made σ (k + 1) len))), (bp, .inl (cI, 4096, .inl bf)), (lp, .inl (cI, 4096, .inl li)), (ep, .inl (cI, 4096, .inl de))] 0 0 34 [] := by
      intro k
      induction k with
      | zero =>
        intro c hk hz
        have hc := zch_lt hz
        have nk : ¬ nI 0 < 0 := by decide
        refine sg_MO_give34 (c := c) (k := 0) (σ := σ) (k8 := -1) C hr hlk (fun z => absurd z nk) (fun z => absurd z nk) (fun _ => nI_add _ _) (fun _ => ⟨rfl, by omega⟩) (fun _ => zch_li hz) (fun _ => rfl) (fun _ => ⟨rfl, by omega⟩) (fun _ => ⟨rfl, by omega⟩) (fun _ => by decide) (fun _ => ?_)
        rw [zgv_s _ _ _ hk]
        exact fin _
      | succ k ih =>
        intro c hk hz
        have hc := zch_lt hz
        have hli := zch_li hz
        obtain ⟨h1, c', h2, h3, h4⟩ := hz
        have nk : ¬ nI (k + 1) < 0 := nI_pos (by omega)
        refine sg_MO_give34 (c := c) (k := k + 1) (σ := σ) (k8 := nI k) C hr hlk (fun z => absurd z nk) (fun z => absurd z nk) (fun _ => nI_add _ _) (fun _ => ⟨rfl, by omega⟩) (fun _ => hli) (fun _ => rfl) (fun _ => ⟨rfl, by omega⟩) (fun _ => ⟨rfl, by omega⟩) (fun _ => pk_m1 k) (fun _ => ?_)
        rw [zgv_s _ _ _ hk, h2]
        exact ih c' (by omega) h4
    have hl0 := loop (len - 1) c0 (by omega) (by rw [show len - 1 + 1 = len by omega]; exact h)
    rw [show len - 1 + 1 = len by omega] at hl0
    exact hl0
  refine sg_MO_give0 C hr hlk hl ht ⟨rfl, by omega⟩ hde (nI_add _ _) (fun _ => zsub1 h1l) (fun z => ?_) (fun z x0 => Or.inl ⟨by have := mt key.mpr z; omega, x0, rfl, rfl⟩)
  have h0 := go (key.mp z)
  rw [zgv_e] at h0
  exact h0
