/-- the siblings from c on are the list -/
def zl (ns : Nat → Nat) : Nat → List Nat → Prop
  | c, [] => c = 0
  | c, d :: L => c = d ∧ d ≠ 0 ∧ zl ns (ns d) L
def zdec : Nat → List Nat → Prop
  | _, [] => True
  | t, c :: L => c < t ∧ zdec c L
def zfd (li : Nat → Nat) (ix : Nat) : List Nat → Nat
  | [] => 0
  | c :: L => if li c = ix then c else zfd li ix L
theorem zdec_len : ∀ (L : List Nat) (t : Nat), zdec t L → L.length ≤ t
  | [], t, _ => Nat.zero_le _
  | c :: L, t, h => by
    have := zdec_len L c h.2
    have h1 := h.1
    simp only [List.length_cons]
    omega
theorem zdec_lt : ∀ (L : List Nat) (t : Nat), zdec t L → ∀ c ∈ L, c < t
  | [], t, _, c, h => by cases h
  | d :: L, t, h, c, hc => by
    rcases List.mem_cons.mp hc with rfl | hc
    · exact h.1
    · exact Nat.lt_trans (zdec_lt L d h.2 c hc) h.1
theorem zk_find_eq (ns li : Nat → Nat) (ix : Nat) : ∀ (L : List Nat) (d c : Nat), zl ns c L → L.length ≤ d → zk_find ns li ix d c = zfd li ix L
  | [], d, c, h, hd => by
    cases d with
    | zero => rfl
    | succ d => rw [zk_find, if_pos (show c = 0 from h)]; rfl
  | e :: L, d, c, h, hd => by
    obtain ⟨h1, h2, h3⟩ := h
    cases d with
    | zero => simp at hd
    | succ d =>
      subst h1
      rw [zk_find, if_neg h2, zfd]
      by_cases q : li c = ix
      · rw [if_pos q, if_pos q]
      · rw [if_neg q, if_neg q]
        exact zk_find_eq ns li ix L d (ns c) h3 (by simp at hd; omega)
theorem zl_upd {ns : Nat → Nat} {x v : Nat} : ∀ (L : List Nat) (c : Nat), (∀ e ∈ L, e ≠ x) → zl ns c L → zl (updN ns x v) c L
  | [], c, _, h => h
  | e :: L, c, hx, h => by
    refine ⟨h.1, h.2.1, ?_⟩
    have h1 : updN ns x v e = ns e := by simp [updN, hx e List.mem_cons_self]
    rw [h1]
    exact zl_upd L (ns e) (fun y hy => hx y (List.mem_cons_of_mem _ hy)) h.2.2
theorem zfd_upd {li : Nat → Nat} {x v ix : Nat} : ∀ (L : List Nat), (∀ e ∈ L, e ≠ x) → zfd (updN li x v) ix L = zfd li ix L
  | [], _ => rfl
  | e :: L, hx => by
    have h1 : updN li x v e = li e := by simp [updN, hx e List.mem_cons_self]
    rw [zfd, zfd, h1, zfd_upd L (fun y hy => hx y (List.mem_cons_of_mem _ hy))]
/-- a row that there is -/
def zval (m top r : Nat) : Prop := r < 2 ^ m ∨ (2 ^ m + 2 ≤ r ∧ r < top)
/-- the tree holds the map ch -/
def zt_ok (m top : Nat) (fc ns li : Nat → Nat) (ch : Nat → Nat → Nat) : Prop := ∀ r, zval m top r → ∃ L : List Nat, zl ns (fc r) L ∧ zdec top L ∧ (∀ c ∈ L, 2 ^ m + 2 ≤ c) ∧ ∀ ix, ch r ix = zfd li ix L
theorem zt_find {m top : Nat} {fc ns li : Nat → Nat} {ch : Nat → Nat → Nat} (h : zt_ok m top fc ns li ch) (ht : top ≤ 4096) {r : Nat} (hr : zval m top r) (ix : Nat) : zk_find ns li ix 4096 (fc r) = ch r ix := by
  obtain ⟨L, h1, h2, h3, h4⟩ := h r hr
  have h5 := zdec_len L top h2
  rw [h4, zk_find_eq ns li ix L 4096 (fc r) h1 (by omega)]
theorem zfd_mem {li : Nat → Nat} {ix : Nat} : ∀ (L : List Nat), zfd li ix L = 0 ∨ zfd li ix L ∈ L
  | [] => Or.inl rfl
  | c :: L => by
    rw [zfd]
    by_cases q : li c = ix
    · rw [if_pos q]; exact Or.inr List.mem_cons_self
    · rw [if_neg q]
      rcases zfd_mem (li := li) (ix := ix) L with h | h
      · exact Or.inl h
      · exact Or.inr (List.mem_cons_of_mem _ h)
theorem zt_val {m top : Nat} {fc ns li : Nat → Nat} {ch : Nat → Nat → Nat} (h : zt_ok m top fc ns li ch) {r : Nat} (hr : zval m top r) {ix : Nat} (hc : ch r ix ≠ 0) : zval m top (ch r ix) := by
  obtain ⟨L, h1, h2, h3, h4⟩ := h r hr
  rw [h4] at hc ⊢
  rcases zfd_mem (li := li) (ix := ix) L with q | q
  · exact absurd q hc
  · exact Or.inr ⟨h3 _ q, zdec_lt L top h2 _ q⟩
theorem zt_clr (m : Nat) (fc ns li : Nat → Nat) : zt_ok m (2 ^ m + 2) (zk_clr m fc) ns li (fun _ _ => 0) := by
  intro r hr
  rcases hr with hr | hr
  · exact ⟨[], by show zk_clr m fc r = 0; simp [zk_clr, hr], trivial, (fun c h => by cases h), fun ix => rfl⟩
  · omega
def zk_add (ch : Nat → Nat → Nat) (r ix x : Nat) : Nat → Nat → Nat := fun r' i' => if r' = r ∧ i' = ix then x else ch r' i'
theorem zt_add {m x : Nat} {fc ns li : Nat → Nat} {ch : Nat → Nat → Nat} (h : zt_ok m x fc ns li ch) (hx : 2 ^ m + 2 ≤ x) (h0 : ∀ i, ch x i = 0) {r ix : Nat} (hr : zval m x r) : zt_ok m (x + 1) (updN (updN fc x 0) r x) (updN ns x (fc r)) (updN li x ix) (zk_add ch r ix x) := by
  have hrx : r ≠ x := by
    intro e
    rcases hr with q | q
    · omega
    · omega
  intro r' hr'
  have mono : ∀ (L : List Nat), zdec x L → zdec (x + 1) L := fun L hL => by
    cases L with
    | nil => trivial
    | cons c L => exact ⟨by have := hL.1; omega, hL.2⟩
  by_cases q1 : r' = r
  · subst q1
    obtain ⟨L, h1, h2, h3, h4⟩ := h r' hr
    have hne : ∀ e ∈ L, e ≠ x := fun e he => Nat.ne_of_lt (zdec_lt L x h2 e he)
    refine ⟨x :: L, ⟨by simp [updN], Nat.ne_of_gt (Nat.lt_of_lt_of_le (Nat.succ_pos (2 ^ m + 1)) hx), ?_⟩, ⟨Nat.lt_succ_self x, h2⟩, fun c hc => ?_, fun i => ?_⟩
    · rw [show updN ns x (fc r') x = fc r' by simp [updN]]
      exact zl_upd L (fc r') hne h1
    · rcases List.mem_cons.mp hc with rfl | hc
      · exact hx
      · exact h3 c hc
    · rw [zfd, show updN li x ix x = ix by simp [updN], zfd_upd L hne, zk_add]
      by_cases q2 : i = ix
      · rw [if_pos ⟨rfl, q2⟩, if_pos q2.symm]
      · rw [if_neg (fun z => q2 z.2), if_neg (fun z => q2 z.symm)]
        exact h4 i
  · by_cases q2 : r' = x
    · subst q2
      refine ⟨[], by show updN (updN fc r' 0) r r' r' = 0; simp [updN, q1], trivial, fun c hc => (by cases hc), fun i => ?_⟩
      rw [zk_add, if_neg (fun z => q1 z.1)]
      exact h0 i
    · have hv : zval m x r' := by
        rcases hr' with z | z
        · exact Or.inl z
        · exact Or.inr ⟨z.1, by omega⟩
      obtain ⟨L, h1, h2, h3, h4⟩ := h r' hv
      have hne : ∀ e ∈ L, e ≠ x := fun e he => Nat.ne_of_lt (zdec_lt L x h2 e he)
      refine ⟨L, ?_, mono L h2, h3, fun i => ?_⟩
      · rw [show updN (updN fc x 0) r x r' = fc r' by simp [updN, q1, q2]]
        exact zl_upd L (fc r') hne h1
      · rw [zk_add, if_neg (fun z => q1 z.1), zfd_upd L hne]
        exact h4 i
/-- the map behind a written row -/
def zk_ch (fr : Bool) (ch : Nat → Nat → Nat) (r ix x : Nat) : Nat → Nat → Nat := if fr = true then (fun _ _ => 0) else zk_add ch r ix x
/-- the writer as a function: the value of all bits, how many -/
def ze_run (m : Nat) (g : Nat → Nat) : Nat → Nat → Nat → Nat → Nat → Nat → Nat → Bool → (Nat → Nat → Nat) → Nat × Nat
  | 0, _, r, V, P, b, x, fr, _ => ((ze_row m r V P b x fr).1 + (2 ^ m + 1) * 2 ^ (ze_row m r V P b x fr).2.1, (ze_row m r V P b x fr).2.1 + (ze_row m r V P b x fr).2.2.1)
  | d + 1, i, r, V, P, b, x, fr, ch => if ch r (g i) = 0 then ze_run m g d (i + 1) (g i) (ze_row m r V P b x fr).1 (ze_row m r V P b x fr).2.1 (ze_row m r V P b x fr).2.2.1 (ze_row m r V P b x fr).2.2.2.1 (ze_row m r V P b x fr).2.2.2.2 (zk_ch (ze_row m r V P b x fr).2.2.2.2 ch r (g i) (ze_row m r V P b x fr).2.2.2.1) else ze_run m g d (i + 1) (ch r (g i)) V P b x fr ch
theorem ze_row_P (m r V P b x : Nat) (fr : Bool) : P ≤ (ze_row m r V P b x fr).2.1 := by
  unfold ze_row
  by_cases q : 4096 ≤ zn_x x fr
  · rw [if_pos q]; show P ≤ P + b + _; omega
  · rw [if_neg q]; show P ≤ P + b; omega
theorem ze_run_P (m : Nat) (g : Nat → Nat) : ∀ (d i r V P b x : Nat) (fr : Bool) (ch : Nat → Nat → Nat), P ≤ (ze_run m g d i r V P b x fr ch).2
  | 0, i, r, V, P, b, x, fr, ch => by
    have := ze_row_P m r V P b x fr
    rw [ze_run]
    show P ≤ (ze_row m r V P b x fr).2.1 + _
    omega
  | d + 1, i, r, V, P, b, x, fr, ch => by
    rw [ze_run]
    by_cases q : ch r (g i) = 0
    · rw [if_pos q]
      exact Nat.le_trans (ze_row_P m r V P b x fr) (ze_run_P m g d _ _ _ _ _ _ _ _)
    · rw [if_neg q]
      exact ze_run_P m g d _ _ _ _ _ _ _ _
/-- what holds of the writer's numbers between codes -/
def ze_inv (m b x : Nat) (fr : Bool) : Prop := (m + 1 ≤ b ∧ b ≤ 12) ∧ (2 ^ m + 2 ≤ x ∧ x ≤ 4095) ∧ x < 2 ^ b ∧ (fr = true → x = 2 ^ m + 2)
def ze_top (x : Nat) (fr : Bool) : Nat := if fr = true then x else x + 1
theorem ze_inv_new {m : Nat} (hm : 2 ≤ m ∧ m ≤ 8) : ze_inv m (m + 1) (2 ^ m + 2) true := by
  have h1 := zp_pow8 hm.2
  have h2 : 2 ^ 2 ≤ 2 ^ m := Nat.pow_le_pow_right (by decide) hm.1
  refine ⟨⟨Nat.le_refl _, by omega⟩, ⟨Nat.le_refl _, by omega⟩, ?_, fun _ => rfl⟩
  rw [Nat.pow_succ]
  omega
theorem ze_inv_row {m b x : Nat} {fr : Bool} (hm : 2 ≤ m ∧ m ≤ 8) (h : ze_inv m b x fr) (r V P : Nat) : ze_inv m (ze_row m r V P b x fr).2.2.1 (ze_row m r V P b x fr).2.2.2.1 (ze_row m r V P b x fr).2.2.2.2 := by
  obtain ⟨h1, h2, h3, h4⟩ := h
  unfold ze_row
  by_cases q : 4096 ≤ zn_x x fr
  · rw [if_pos q]; exact ze_inv_new hm
  · rw [if_neg q]
    have a2 := zn_b_le (x := x) (fr := fr) h1.2
    have a1 := zn_x_le (fr := fr) (show x ≤ 4096 by omega)
    refine ⟨⟨by show m + 1 ≤ zn_b b x fr; omega, a2.2⟩, ⟨by show 2 ^ m + 2 ≤ zn_x x fr; omega, by show zn_x x fr ≤ 4095; omega⟩, ?_, fun z => by cases z⟩
    show zn_x x fr < 2 ^ zn_b b x fr
    unfold zn_x zn_b
    unfold zn_x at q
    by_cases q1 : fr = false ∧ x < 4096
    · rw [if_pos q1] at q ⊢
      by_cases q2 : x + 1 = 2 ^ b
      · have hb : b < 12 := by
          by_cases z : b < 12
          · exact z
          · have e : b = 12 := by omega
            rw [e] at q2
            omega
        rw [if_pos ⟨q1.1, q1.2, q2, hb⟩, Nat.pow_succ]
        omega
      · rw [if_neg (fun z => q2 z.2.2.1)]
        omega
    · rw [if_neg q1] at q ⊢
      rw [if_neg (fun z => q1 ⟨z.1, z.2.1⟩)]
      exact h3
theorem ze_child {m b x r V P : Nat} {fr : Bool} (h : x ≤ 4095) (fc : Nat → Nat) (he : (ze_row m r V P b x fr).2.2.2.2 = false) : (ze_row m r V P b x fr).2.2.2.1 = ze_top x fr ∧ ze_fc m x fr fc = fc := by
  unfold ze_row at he ⊢
  unfold ze_fc
  by_cases q : 4096 ≤ zn_x x fr
  · rw [if_pos q] at he; cases he
  · rw [if_neg q, if_neg q]
    refine ⟨?_, rfl⟩
    show zn_x x fr = ze_top x fr
    unfold zn_x ze_top
    cases fr with
    | true => rw [if_neg (fun z => by cases z.1), if_pos rfl]
    | false => rw [if_pos ⟨rfl, by omega⟩, if_neg (by decide)]
theorem ze_full {m b x r V P : Nat} {fr : Bool} (fc : Nat → Nat) (he : (ze_row m r V P b x fr).2.2.2.2 = true) : (ze_row m r V P b x fr).2.2.2.1 = 2 ^ m + 2 ∧ ze_fc m x fr fc = zk_clr m fc := by
  unfold ze_row at he ⊢
  unfold ze_fc
  by_cases q : 4096 ≤ zn_x x fr
  · rw [if_pos q, if_pos q]; exact ⟨rfl, rfl⟩
  · rw [if_neg q] at he; cases he
theorem zk_clr_lt {m : Nat} {fc : Nat → Nat} (h : ∀ j, fc j < 4096) : ∀ j, zk_clr m fc j < 4096 := fun j => by
  unfold zk_clr
  by_cases q : j < 2 ^ m
  · rw [if_pos q]; decide
  · rw [if_neg q]; exact h j
theorem ze_fc_lt {m x : Nat} {fr : Bool} {fc : Nat → Nat} (h : ∀ j, fc j < 4096) : ∀ j, ze_fc m x fr fc j < 4096 := by
  unfold ze_fc
  by_cases q : 4096 ≤ zn_x x fr
  · rw [if_pos q]; exact zk_clr_lt h
  · rw [if_neg q]; exact h
theorem updN_lt {g : Nat → Nat} {k v B : Nat} (h : ∀ j, g j < B) (hv : v < B) : ∀ j, updN g k v j < B := fun j => by
  unfold updN
  by_cases q : j = k
  · rw [if_pos q]; exact hv
  · rw [if_neg q]; exact h j
set_option maxRecDepth 100000 in
set_option maxHeartbeats 4000000 in
theorem sg_PK_write0 {p : Program} {l : Launch} {e : Env} {s : State} {mi : MethodId} {args : Array Value} {below : List Frame} {meth : Method} {co : Code} {D : va_G} {cB cI cL : ClassId} {w0 : va_W} {kr nr : Nat} {post : Outcome → va_W → Prop} (C : zx_C p s mi args co b_PK_write 9 R_PK zB D zcl (zt cB cI cL) (va_A w0 s.heap.size)) {a na ka qb ia t fa sa la m n8 : Nat} {m9 b9 x9 f9 n9 w9 v9 : Int32} {fc ns li : Nat → Nat} {ft f : Nat → Int32} (hm : m ≤ 8) (hby : ∀ j, vp_nar .byte (f j) = f j) (hr9 : meth.sig.returnType = some .int) (hlk9 : meth.locks = false) (hl9 : l.stackTraces = false) (ht9 : co.exceptionTable.toList.map (fun h => (h.startPc, h.endPc, h.handlerPc, h.catchType)) = []) (b23 : ∀ f2 : Nat → Int32, ∀ n2 : Nat, ∀ v2 : Nat, ∀ w2 : Nat, (zS f2 n2 v2 w2 (0 + 2 ^ m * 2 ^ 0) (0 + (m + 1)) ∧ w2 < 8 ∧ n2 ≤ 16384) → (0 : Int32) = nI 0 ∧ 0 < 16384) (e27 : ∀ f2 : Nat → Int32, ∀ n2 : Nat, ∀ v2 : Nat, ∀ w2 : Nat, (zS f2 n2 v2 w2 (0 + 2 ^ m * 2 ^ 0) (0 + (m + 1)) ∧ w2 < 8 ∧ n2 ≤ 16384) → ((ft 0) &&& (255 : Int32)) = (nI (zu (ft 0)))) (k33 : ∀ f2 : Nat → Int32, ∀ n2 : Nat, ∀ v2 : Nat, ∀ w2 : Nat, (zS f2 n2 v2 w2 (0 + 2 ^ m * 2 ^ 0) (0 + (m + 1)) ∧ w2 < 8 ∧ n2 ≤ 16384) → zx_At p l e (zr 12 1 6) s mi args below meth co (zx_Q below s D zcl w0 kr nr (zr 12 1 6) post) D zcl (va_A w0 s.heap.size) 9 [(0, .ref a), (1, .ref t), (2, .int (nI n8)), (3, .int (nI m)), (4, .ref ia), (5, .int (nI (zu (ft 0)))), (6, .int (1 : Int32))] [(a, .inr (3, [.ref na, .ref ka, .ref fa, .ref sa, .ref la])), (na, .inr (0, [.int (nI m), .int (nI (m + 1)), .int (nI (2 ^ m + 2)), .int 1])), (ka, .inr (1, [.ref ia, .int (nI n2), .int (nI v2), .int (nI w2)])), (fa, .inl (cI, 4096, .inl (zf (zk_clr m fc)))), (sa, .inl (cI, 4096, .inl (zf ns))), (la, .inl (cI, 4096, .inl (zf li))), (t, .inl (cB, 16384, .inl ft)), (ia, .inl (cB, 16384, .inl f2))] 0 0 33 []) (t18 : ∀ f2 : Nat → Int32, ∀ n2 : Nat, ∀ v2 : Nat, ∀ w2 : Nat, (16384 < (0 + (m + 1)) / 8 ∧ ∀ j, vp_nar .byte (f2 j) = f2 j) → ∀ x9 : Nat, post (.threw x9) [(a, .inr (3, [.ref na, .ref ka, .ref fa, .ref sa, .ref la])), (na, .inr (0, [.int (nI m), .int (nI (m + 1)), .int (nI (2 ^ m + 2)), .int (zb true)])), (ka, .inr (1, [.ref ia, .int (nI n2), .int (nI v2), .int (nI w2)])), (fa, .inl (cI, 4096, .inl (zf fc))), (sa, .inl (cI, 4096, .inl (zf ns))), (la, .inl (cI, 4096, .inl (zf li))), (t, .inl (cB, 16384, .inl ft)), (ia, .inl (cB, 16384, .inl f2)), (x9, .inr (8, []))]) : zx_At p l e (zr 12 1 6) s mi args below meth co (zx_Q below s D zcl w0 kr nr (zr 12 1 6) post) D zcl (va_A w0 s.heap.size) 9 [(0, .ref a), (1, .ref t), (2, .int (nI n8)), (3, .int (nI m)), (4, .ref ia)] [(a, .inr (3, [.ref na, .ref ka, .ref fa, .ref sa, .ref la])), (na, .inr (0, [.int m9, .int b9, .int x9, .int f9])), (ka, .inr (1, [.ref qb, .int n9, .int w9, .int v9])), (fa, .inl (cI, 4096, .inl (zf fc))), (sa, .inl (cI, 4096, .inl (zf ns))), (la, .inl (cI, 4096, .inl (zf li))), (t, .inl (cB, 16384, .inl ft)), (ia, .inl (cB, 16384, .inl f))] 0 0 0 [] := by
  refine zx_aload_n (pc := 0) C d_PK_write_0 rfl 0 rfl ?_
  refine zx_get (pc := 1) (ci := 3) (Cn := R_PK) (T := T_PK) (N := 5) (v := .ref na) C zu_PK 0 rfl rfl 0 (by decide) zw_113 rfl rfl d_PK_write_1 ?_
  refine zx_iload_n (pc := 4) C d_PK_write_4 rfl 3 rfl ?_
  refine zx_callV (pc := 5) (ix := 35) (As := [.int (nI m)]) (b := na) (q0 := 1) (wr := [(a, .inr (3, [.ref na, .ref ka, .ref fa, .ref sa, .ref la])), (ka, .inr (1, [.ref qb, .int n9, .int w9, .int v9])), (fa, .inl (cI, 4096, .inl (zf fc))), (sa, .inl (cI, 4096, .inl (zf ns))), (la, .inl (cI, 4096, .inl (zf li))), (t, .inl (cB, 16384, .inl ft)), (ia, .inl (cB, 16384, .inl f))]) (st := []) C (zx_cw.of (C.w zw_281)) (by decide +kernel) ⟨by decide +kernel, by decide +kernel⟩ zw_279 zw_280 zw_365 rfl rfl rfl rfl rfl (k_NU_startWith l D cB cI cL na m m9 b9 x9 f9 (by omega)) rfl [1] [0, 2, 3, 4, 5, 6, 7] rfl rfl (by decide) (by decide) (by decide) (Nat.le_of_ble_eq_true rfl) (Nat.le_of_ble_eq_true rfl) (Nat.le_of_ble_eq_true rfl) (Nat.le_of_ble_eq_true rfl) d_PK_write_5 (fun o w1 hp => ?_)
  obtain ⟨rfl, rfl⟩ := hp
  refine zx_rv (k2 := 0) (n2 := 0) rfl rfl ?_
  refine zx_ws (ws' := [(a, .inr (3, [.ref na, .ref ka, .ref fa, .ref sa, .ref la])), (na, .inr (0, [.int (nI m), .int (nI (m + 1)), .int (nI (2 ^ m + 2)), .int 1])), (ka, .inr (1, [.ref qb, .int n9, .int w9, .int v9])), (fa, .inl (cI, 4096, .inl (zf fc))), (sa, .inl (cI, 4096, .inl (zf ns))), (la, .inl (cI, 4096, .inl (zf li))), (t, .inl (cB, 16384, .inl ft)), (ia, .inl (cB, 16384, .inl f))]) [0, 7, 1, 2, 3, 4, 5, 6] (by decide) rfl ?_
  refine zx_aload_n (pc := 8) C d_PK_write_8 rfl 0 rfl ?_
  refine zx_get (pc := 9) (ci := 3) (Cn := R_PK) (T := T_PK) (N := 5) (v := .ref ka) C zu_PK 0 rfl rfl 1 (by decide) zw_114 rfl rfl d_PK_write_9 ?_
  refine zx_aload (pc := 12) C d_PK_write_12 4 rfl ?_
  refine zx_callV (pc := 14) (ix := 39) (As := [.ref ia]) (b := ka) (q0 := 2) (wr := [(a, .inr (3, [.ref na, .ref ka, .ref fa, .ref sa, .ref la])), (na, .inr (0, [.int (nI m), .int (nI (m + 1)), .int (nI (2 ^ m + 2)), .int 1])), (fa, .inl (cI, 4096, .inl (zf fc))), (sa, .inl (cI, 4096, .inl (zf ns))), (la, .inl (cI, 4096, .inl (zf li))), (t, .inl (cB, 16384, .inl ft)), (ia, .inl (cB, 16384, .inl f))]) (st := []) C (zx_cw.of (C.w zw_369)) (by decide +kernel) ⟨by decide +kernel, by decide +kernel⟩ zw_367 zw_368 zw_366 rfl rfl rfl rfl rfl (k_BS_startOn l D cB cI cL (zr 0 0 0) ka qb ia n9 w9 v9) rfl [2] [0, 1, 3, 4, 5, 6, 7] rfl rfl (by decide) (by decide) (by decide) (Nat.le_of_ble_eq_true rfl) (Nat.le_of_ble_eq_true rfl) (Nat.le_of_ble_eq_true rfl) (Nat.le_of_ble_eq_true rfl) d_PK_write_14 (fun o w1 hp => ?_)
  obtain ⟨rfl, rfl⟩ := hp
  refine zx_rv (k2 := 0) (n2 := 0) rfl rfl ?_
  refine zx_ws (ws' := [(a, .inr (3, [.ref na, .ref ka, .ref fa, .ref sa, .ref la])), (na, .inr (0, [.int (nI m), .int (nI (m + 1)), .int (nI (2 ^ m + 2)), .int 1])), (ka, .inr (1, [.ref ia, .int (nI 0), .int (nI 0), .int (nI 0)])), (fa, .inl (cI, 4096, .inl (zf fc))), (sa, .inl (cI, 4096, .inl (zf ns))), (la, .inl (cI, 4096, .inl (zf li))), (t, .inl (cB, 16384, .inl ft)), (ia, .inl (cB, 16384, .inl f))]) [0, 1, 7, 2, 3, 4, 5, 6] (by decide) rfl ?_
  refine zx_aload_n (pc := 17) C d_PK_write_17 rfl 0 rfl ?_
  refine zx_callV (pc := 18) (ix := 43) (As := []) (b := a) (q0 := 0) (wr := [(sa, .inl (cI, 4096, .inl (zf ns))), (la, .inl (cI, 4096, .inl (zf li))), (t, .inl (cB, 16384, .inl ft))]) (st := []) C (zx_cw.of (C.w zw_373)) (by decide +kernel) ⟨by decide +kernel, by decide +kernel⟩ zw_372 zs_PK_writeBeginning zw_370 rfl rfl rfl rfl rfl (k_PK_writeBeginning l D cB cI cL hl9 a na ka ia fa sa la m (m + 1) (2 ^ m + 2) 0 0 0 0 0 true fc f hm (by omega) (Nat.le_refl _) (zS_0 hby) (by decide) (by decide)) rfl [0, 1, 2, 7, 3] [4, 5, 6] rfl rfl (by decide) (by decide) (by decide) (Nat.le_of_ble_eq_true rfl) (Nat.le_of_ble_eq_true rfl) (Nat.le_of_ble_eq_true rfl) (Nat.le_of_ble_eq_true rfl) d_PK_write_18 (fun o w1 hp => ?_)
  rcases hp with ⟨f2, n2, v2, w2, hc18, rfl, rfl⟩ | ⟨f2, n2, v2, w2, hc18, x9, rfl, rfl⟩
  · refine zx_rv (k2 := 0) (n2 := 0) rfl rfl ?_
    refine zx_ws (ws' := [(a, .inr (3, [.ref na, .ref ka, .ref fa, .ref sa, .ref la])), (na, .inr (0, [.int (nI m), .int (nI (m + 1)), .int (nI (2 ^ m + 2)), .int 1])), (ka, .inr (1, [.ref ia, .int (nI n2), .int (nI v2), .int (nI w2)])), (fa, .inl (cI, 4096, .inl (zf (zk_clr m fc)))), (sa, .inl (cI, 4096, .inl (zf ns))), (la, .inl (cI, 4096, .inl (zf li))), (t, .inl (cB, 16384, .inl ft)), (ia, .inl (cB, 16384, .inl f2))]) [3, 4, 5, 7, 0, 1, 2, 6] (by decide) rfl ?_
    refine zx_aload_n (pc := 21) C d_PK_write_21 rfl 1 rfl ?_
    refine zx_iconst (pc := 22) C d_PK_write_22 (v := (0 : Int32)) (by decide) ?_
    refine zx_bald (pc := 23) C 6 0 rfl rfl 0 (b23 f2 n2 v2 w2 hc18).1 (b23 f2 n2 v2 w2 hc18).2 (by decide) d_PK_write_23 ?_
    refine zx_sipush (pc := 24) C d_PK_write_24 (v := (255 : Int32)) (by decide) ?_
    refine zx_iand (pc := 27) C d_PK_write_27 ?_
    refine zx_seti (nI (zu (ft 0))) (e27 f2 n2 v2 w2 hc18) ?_
    refine zx_istore (pc := 28) C d_PK_write_28 (by decide) (lv' := [(5, .int (nI (zu (ft 0)))), (0, .ref a), (1, .ref t), (2, .int (nI n8)), (3, .int (nI m)), (4, .ref ia)]) rfl ?_
    refine zx_iconst (pc := 30) C d_PK_write_30 (v := (1 : Int32)) (by decide) ?_
    refine zx_istore (pc := 31) C d_PK_write_31 (by decide) (lv' := [(6, .int (1 : Int32)), (5, .int (nI (zu (ft 0)))), (0, .ref a), (1, .ref t), (2, .int (nI n8)), (3, .int (nI m)), (4, .ref ia)]) rfl ?_
    refine zx_lv (lv' := [(0, .ref a), (1, .ref t), (2, .int (nI n8)), (3, .int (nI m)), (4, .ref ia), (5, .int (nI (zu (ft 0)))), (6, .int (1 : Int32))]) [2, 3, 4, 5, 6, 1, 0] rfl ?_
    exact k33 f2 n2 v2 w2 hc18
  · exact zx_rt (k2 := 1) (n2 := 6) rfl rfl (zx_wsT (ws' := [(a, .inr (3, [.ref na, .ref ka, .ref fa, .ref sa, .ref la])), (na, .inr (0, [.int (nI m), .int (nI (m + 1)), .int (nI (2 ^ m + 2)), .int (zb true)])), (ka, .inr (1, [.ref ia, .int (nI n2), .int (nI v2), .int (nI w2)])), (fa, .inl (cI, 4096, .inl (zf fc))), (sa, .inl (cI, 4096, .inl (zf ns))), (la, .inl (cI, 4096, .inl (zf li))), (t, .inl (cB, 16384, .inl ft)), (ia, .inl (cB, 16384, .inl f2)), (x9, .inr (8, []))]) [3, 4, 5, 7, 0, 1, 2, 6, 8] (by decide) rfl (zx_leave hlk9 (zx_noTab ht9 _) (Nat.le_of_ble_eq_true rfl) (Nat.le_of_ble_eq_true rfl) (t18 f2 n2 v2 w2 hc18 x9)))

set_option maxRecDepth 100000 in
set_option maxHeartbeats 4000000 in
theorem sg_PK_write33 {p : Program} {l : Launch} {e : Env} {s : State} {mi : MethodId} {args : Array Value} {below : List Frame} {meth : Method} {co : Code} {D : va_G} {cB cI cL : ClassId} {w0 : va_W} {kr nr : Nat} {post : Outcome → va_W → Prop} (C : zx_C p s mi args co b_PK_write 9 R_PK zB D zcl (zt cB cI cL) (va_A w0 s.heap.size)) {a na ka ia t fa sa la m n8 b x r n v wb V P i : Nat} {fr : Bool} {fc ns li : Nat → Nat} {ft f : Nat → Int32} (hm : m ≤ 8) (hb : b ≤ 12) (hmb : m + 1 ≤ b) (hx : x ≤ 4096) (hr0 : r < 2 ^ b) (hfc : ∀ j, fc j < 4096) (hz : zS f n v wb V P) (hwb : wb < 8) (hn : n ≤ 16384) (hr4 : r < 4096) (hns : ∀ j, ns j < 4096) (hli : ∀ j, li j < 256) (hEx : (ze_row m r V P b x fr).2.2.2.1 < 4096) (hrE : (ze_row m r V P b x fr).2.2.2.2 = false → r ≠ (ze_row m r V P b x fr).2.2.2.1) (hr9 : meth.sig.returnType = some .int) (hlk9 : meth.locks = false) (hl9 : l.stackTraces = false) (ht9 : co.exceptionTable.toList.map (fun h => (h.startPc, h.endPc, h.handlerPc, h.catchType)) = []) (k92 : ((nI n8) ≤ (nI i)) → zx_At p l e (zr 12 1 6) s mi args below meth co (zx_Q below s D zcl w0 kr nr (zr 12 1 6) post) D zcl (va_A w0 s.heap.size) 9 [(0, .ref a), (1, .ref t), (2, .int (nI n8)), (3, .int (nI m)), (4, .ref ia), (5, .int (nI r)), (6, .int (nI i))] [(a, .inr (3, [.ref na, .ref ka, .ref fa, .ref sa, .ref la])), (na, .inr (0, [.int (nI m), .int (nI b), .int (nI x), .int (zb fr)])), (ka, .inr (1, [.ref ia, .int (nI n), .int (nI v), .int (nI wb)])), (fa, .inl (cI, 4096, .inl (zf fc))), (sa, .inl (cI, 4096, .inl (zf ns))), (la, .inl (cI, 4096, .inl (zf li))), (t, .inl (cB, 16384, .inl ft)), (ia, .inl (cB, 16384, .inl f))] 0 0 92 []) (b42 : (¬ (nI n8) ≤ (nI i)) → (nI i) = nI i ∧ i < 16384) (e46 : (¬ (nI n8) ≤ (nI i)) → ((ft i) &&& (255 : Int32)) = (nI (zu (ft i)))) (e86 : (¬ (nI n8) ≤ (nI i)) → (¬ (nI (zk_find ns li (zu (ft i)) 4096 (fc r))) = 0) → (nI i) + (1 : Int32) = (nI (i + 1))) (k33 : (¬ (nI n8) ≤ (nI i)) → (¬ (nI (zk_find ns li (zu (ft i)) 4096 (fc r))) = 0) → zx_At p l e (zr 12 1 6) s mi args below meth co (zx_Q below s D zcl w0 kr nr (zr 12 1 6) post) D zcl (va_A w0 s.heap.size) 9 [(0, .ref a), (1, .ref t), (2, .int (nI n8)), (3, .int (nI m)), (4, .ref ia), (5, .int (nI (zk_find ns li (zu (ft i)) 4096 (fc r)))), (6, .int (nI (i + 1)))] [(a, .inr (3, [.ref na, .ref ka, .ref fa, .ref sa, .ref la])), (na, .inr (0, [.int (nI m), .int (nI b), .int (nI x), .int (zb fr)])), (ka, .inr (1, [.ref ia, .int (nI n), .int (nI v), .int (nI wb)])), (fa, .inl (cI, 4096, .inl (zf fc))), (sa, .inl (cI, 4096, .inl (zf ns))), (la, .inl (cI, 4096, .inl (zf li))), (t, .inl (cB, 16384, .inl ft)), (ia, .inl (cB, 16384, .inl f))] 0 0 33 []) (e86_2 : (¬ (nI n8) ≤ (nI i)) → ((nI (zk_find ns li (zu (ft i)) 4096 (fc r))) = 0) → ∀ f2 : Nat → Int32, ∀ n2 : Nat, ∀ v2 : Nat, ∀ w2 : Nat, (zS f2 n2 v2 w2 (ze_row m r V P b x fr).1 (ze_row m r V P b x fr).2.1 ∧ w2 < 8 ∧ n2 ≤ 16384) → ((ze_row m r V P b x fr).2.2.2.2 = true) → (nI i) + (1 : Int32) = (nI (i + 1))) (k33_2 : (¬ (nI n8) ≤ (nI i)) → ((nI (zk_find ns li (zu (ft i)) 4096 (fc r))) = 0) → ∀ f2 : Nat → Int32, ∀ n2 : Nat, ∀ v2 : Nat, ∀ w2 : Nat, (zS f2 n2 v2 w2 (ze_row m r V P b x fr).1 (ze_row m r V P b x fr).2.1 ∧ w2 < 8 ∧ n2 ≤ 16384) → ((ze_row m r V P b x fr).2.2.2.2 = true) → zx_At p l e (zr 12 1 6) s mi args below meth co (zx_Q below s D zcl w0 kr nr (zr 12 1 6) post) D zcl (va_A w0 s.heap.size) 9 [(0, .ref a), (1, .ref t), (2, .int (nI n8)), (3, .int (nI m)), (4, .ref ia), (5, .int (nI (zu (ft i)))), (6, .int (nI (i + 1)))] [(a, .inr (3, [.ref na, .ref ka, .ref fa, .ref sa, .ref la])), (na, .inr (0, [.int (nI m), .int (nI (ze_row m r V P b x fr).2.2.1), .int (nI (ze_row m r V P b x fr).2.2.2.1), .int (zb (ze_row m r V P b x fr).2.2.2.2)])), (ka, .inr (1, [.ref ia, .int (nI n2), .int (nI v2), .int (nI w2)])), (fa, .inl (cI, 4096, .inl (zf (ze_fc m x fr fc)))), (sa, .inl (cI, 4096, .inl (zf ns))), (la, .inl (cI, 4096, .inl (zf li))), (t, .inl (cB, 16384, .inl ft)), (ia, .inl (cB, 16384, .inl f2))] 0 0 33 []) (e86_3 : (¬ (nI n8) ≤ (nI i)) → ((nI (zk_find ns li (zu (ft i)) 4096 (fc r))) = 0) → ∀ f2 : Nat → Int32, ∀ n2 : Nat, ∀ v2 : Nat, ∀ w2 : Nat, (zS f2 n2 v2 w2 (ze_row m r V P b x fr).1 (ze_row m r V P b x fr).2.1 ∧ w2 < 8 ∧ n2 ≤ 16384) → ((ze_row m r V P b x fr).2.2.2.2 = false) → (nI i) + (1 : Int32) = (nI (i + 1))) (k33_3 : (¬ (nI n8) ≤ (nI i)) → ((nI (zk_find ns li (zu (ft i)) 4096 (fc r))) = 0) → ∀ f2 : Nat → Int32, ∀ n2 : Nat, ∀ v2 : Nat, ∀ w2 : Nat, (zS f2 n2 v2 w2 (ze_row m r V P b x fr).1 (ze_row m r V P b x fr).2.1 ∧ w2 < 8 ∧ n2 ≤ 16384) → ((ze_row m r V P b x fr).2.2.2.2 = false) → zx_At p l e (zr 12 1 6) s mi args below meth co (zx_Q below s D zcl w0 kr nr (zr 12 1 6) post) D zcl (va_A w0 s.heap.size) 9 [(0, .ref a), (1, .ref t), (2, .int (nI n8)), (3, .int (nI m)), (4, .ref ia), (5, .int (nI (zu (ft i)))), (6, .int (nI (i + 1)))] [(a, .inr (3, [.ref na, .ref ka, .ref fa, .ref sa, .ref la])), (na, .inr (0, [.int (nI m), .int (nI (ze_row m r V P b x fr).2.2.1), .int (nI (ze_row m r V P b x fr).2.2.2.1), .int (zb (ze_row m r V P b x fr).2.2.2.2)])), (ka, .inr (1, [.ref ia, .int (nI n2), .int (nI v2), .int (nI w2)])), (fa, .inl (cI, 4096, .inl (zf (updN (updN (ze_fc m x fr fc) (ze_row m r V P b x fr).2.2.2.1 0) r (ze_row m r V P b x fr).2.2.2.1)))), (sa, .inl (cI, 4096, .inl (zf (updN ns (ze_row m r V P b x fr).2.2.2.1 ((ze_fc m x fr fc) r))))), (la, .inl (cI, 4096, .inl (zf (updN li (ze_row m r V P b x fr).2.2.2.1 (zu (ft i)))))), (t, .inl (cB, 16384, .inl ft)), (ia, .inl (cB, 16384, .inl f2))] 0 0 33 []) (t67 : (¬ (nI n8) ≤ (nI i)) → ((nI (zk_find ns li (zu (ft i)) 4096 (fc r))) = 0) → ∀ f2 : Nat → Int32, ∀ n2 : Nat, ∀ v2 : Nat, ∀ w2 : Nat, ∀ b7 : Int32, ∀ x7 : Int32, ∀ f7 : Int32, ∀ fc7 : Nat → Nat, (16384 < (ze_row m r V P b x fr).2.1 / 8 ∧ (∀ j, fc7 j < 4096) ∧ ∀ j, vp_nar .byte (f2 j) = f2 j) → ∀ x9 : Nat, post (.threw x9) [(a, .inr (3, [.ref na, .ref ka, .ref fa, .ref sa, .ref la])), (na, .inr (0, [.int (nI m), .int b7, .int x7, .int f7])), (ka, .inr (1, [.ref ia, .int (nI n2), .int (nI v2), .int (nI w2)])), (fa, .inl (cI, 4096, .inl (zf fc7))), (sa, .inl (cI, 4096, .inl (zf ns))), (la, .inl (cI, 4096, .inl (zf li))), (t, .inl (cB, 16384, .inl ft)), (ia, .inl (cB, 16384, .inl f2)), (x9, .inr (8, []))]) : zx_At p l e (zr 12 1 6) s mi args below meth co (zx_Q below s D zcl w0 kr nr (zr 12 1 6) post) D zcl (va_A w0 s.heap.size) 9 [(0, .ref a), (1, .ref t), (2, .int (nI n8)), (3, .int (nI m)), (4, .ref ia), (5, .int (nI r)), (6, .int (nI i))] [(a, .inr (3, [.ref na, .ref ka, .ref fa, .ref sa, .ref la])), (na, .inr (0, [.int (nI m), .int (nI b), .int (nI x), .int (zb fr)])), (ka, .inr (1, [.ref ia, .int (nI n), .int (nI v), .int (nI wb)])), (fa, .inl (cI, 4096, .inl (zf fc))), (sa, .inl (cI, 4096, .inl (zf ns))), (la, .inl (cI, 4096, .inl (zf li))), (t, .inl (cB, 16384, .inl ft)), (ia, .inl (cB, 16384, .inl f))] 0 0 33 [] := by
  refine zx_iload (pc := 33) C d_PK_write_33 6 rfl ?_
  refine zx_iload_n (pc := 35) C d_PK_write_35 rfl 2 rfl ?_
  refine zx_icmp_ge (pc := 36) C 92 d_PK_write_36 (by decide) (fun c36 => ?_) (fun c36 => ?_)
  · exact k92 c36
  · refine zx_aload_n (pc := 39) C d_PK_write_39 rfl 1 rfl ?_
    refine zx_iload (pc := 40) C d_PK_write_40 6 rfl ?_
    refine zx_bald (pc := 42) C 6 0 rfl rfl i (b42 c36).1 (b42 c36).2 (by decide) d_PK_write_42 ?_
    refine zx_sipush (pc := 43) C d_PK_write_43 (v := (255 : Int32)) (by decide) ?_
    refine zx_iand (pc := 46) C d_PK_write_46 ?_
    refine zx_seti (nI (zu (ft i))) (e46 c36) ?_
    refine zx_istore (pc := 47) C d_PK_write_47 (by decide) (lv' := [(7, .int (nI (zu (ft i)))), (0, .ref a), (1, .ref t), (2, .int (nI n8)), (3, .int (nI m)), (4, .ref ia), (5, .int (nI r)), (6, .int (nI i))]) rfl ?_
    refine zx_aload_n (pc := 49) C d_PK_write_49 rfl 1 rfl ?_
    refine zx_iload (pc := 50) C d_PK_write_50 6 rfl ?_
    refine zx_iload (pc := 52) C d_PK_write_52 0 rfl ?_
    refine zx_callV (pc := 54) (ix := 46) (As := [.int (nI r), .int (nI (zu (ft i)))]) (b := a) (q0 := 0) (wr := [(na, .inr (0, [.int (nI m), .int (nI b), .int (nI x), .int (zb fr)])), (ka, .inr (1, [.ref ia, .int (nI n), .int (nI v), .int (nI wb)])), (t, .inl (cB, 16384, .inl ft)), (ia, .inl (cB, 16384, .inl f))]) (st := []) C (zx_cw.of (C.w zw_655)) (by decide +kernel) ⟨by decide +kernel, by decide +kernel⟩ zw_654 zs_PK_childOf zw_652 rfl rfl rfl rfl rfl (k_PK_childOf l D cB cI cL (zr 0 0 0) a na ka fa sa la r (zu (ft i)) fc ns li hr4 (zu_lt _) hfc hns hli) rfl [0, 3, 4, 5] [1, 2, 6, 7] rfl rfl (by decide) (by decide) (by decide) (Nat.le_of_ble_eq_true rfl) (Nat.le_of_ble_eq_true rfl) (Nat.le_of_ble_eq_true rfl) (Nat.le_of_ble_eq_true rfl) d_PK_write_54 (fun o w1 hp => ?_)
    obtain ⟨rfl, rfl⟩ := hp
    refine zx_ri (k2 := 0) (n2 := 0) rfl rfl ?_
    refine zx_ws (ws' := [(a, .inr (3, [.ref na, .ref ka, .ref fa, .ref sa, .ref la])), (na, .inr (0, [.int (nI m), .int (nI b), .int (nI x), .int (zb fr)])), (ka, .inr (1, [.ref ia, .int (nI n), .int (nI v), .int (nI wb)])), (fa, .inl (cI, 4096, .inl (zf fc))), (sa, .inl (cI, 4096, .inl (zf ns))), (la, .inl (cI, 4096, .inl (zf li))), (t, .inl (cB, 16384, .inl ft)), (ia, .inl (cB, 16384, .inl f))]) [4, 0, 1, 5, 6, 7, 2, 3] (by decide) rfl ?_
    refine zx_istore (pc := 57) C d_PK_write_57 (by decide) (lv' := [(8, .int (nI (zk_find ns li (zu (ft i)) 4096 (fc r)))), (7, .int (nI (zu (ft i)))), (0, .ref a), (1, .ref t), (2, .int (nI n8)), (3, .int (nI m)), (4, .ref ia), (5, .int (nI r)), (6, .int (nI i))]) rfl ?_
    refine zx_iload (pc := 59) C d_PK_write_59 0 rfl ?_
    refine zx_if_ne (pc := 61) C 82 d_PK_write_61 (by decide) (fun c61 => ?_) (fun c61 => ?_)
    · refine zx_iload (pc := 82) C d_PK_write_82 0 rfl ?_
      refine zx_istore (pc := 84) C d_PK_write_84 (by decide) (lv' := [(5, .int (nI (zk_find ns li (zu (ft i)) 4096 (fc r)))), (8, .int (nI (zk_find ns li (zu (ft i)) 4096 (fc r)))), (7, .int (nI (zu (ft i)))), (0, .ref a), (1, .ref t), (2, .int (nI n8)), (3, .int (nI m)), (4, .ref ia), (6, .int (nI i))]) rfl ?_
      refine zx_iinc (pc := 86) C d_PK_write_86 8 rfl (v := (nI (i + 1))) (e86 c36 c61) (by decide) (lv' := [(6, .int (nI (i + 1))), (5, .int (nI (zk_find ns li (zu (ft i)) 4096 (fc r)))), (8, .int (nI (zk_find ns li (zu (ft i)) 4096 (fc r)))), (7, .int (nI (zu (ft i)))), (0, .ref a), (1, .ref t), (2, .int (nI n8)), (3, .int (nI m)), (4, .ref ia)]) rfl ?_
      refine zx_goto (pc := 89) C 33 d_PK_write_89 (by decide) ?_
      refine zx_lv (lv' := [(0, .ref a), (1, .ref t), (2, .int (nI n8)), (3, .int (nI m)), (4, .ref ia), (5, .int (nI (zk_find ns li (zu (ft i)) 4096 (fc r)))), (6, .int (nI (i + 1)))]) [4, 5, 6, 7, 8, 1, 0] rfl ?_
      exact k33 c36 c61
    · refine zx_aload_n (pc := 64) C d_PK_write_64 rfl 2 rfl ?_
      refine zx_iload (pc := 65) C d_PK_write_65 7 rfl ?_
      refine zx_callV (pc := 67) (ix := 50) (As := [.int (nI r)]) (b := a) (q0 := 0) (wr := [(sa, .inl (cI, 4096, .inl (zf ns))), (la, .inl (cI, 4096, .inl (zf li))), (t, .inl (cB, 16384, .inl ft))]) (st := []) C (zx_cw.of (C.w zw_659)) (by decide +kernel) ⟨by decide +kernel, by decide +kernel⟩ zw_658 zs_PK_writeRow zw_656 rfl rfl rfl rfl rfl (k_PK_writeRow l D cB cI cL hl9 r a na ka ia fa sa la m b x n v wb V P fr fc f hm hb hmb hx hr0 hfc hz hwb hn) rfl [0, 1, 2, 7, 3] [4, 5, 6] rfl rfl (by decide) (by decide) (by decide) (Nat.le_of_ble_eq_true rfl) (Nat.le_of_ble_eq_true rfl) (Nat.le_of_ble_eq_true rfl) (Nat.le_of_ble_eq_true rfl) d_PK_write_67 (fun o w1 hp => ?_)
      rcases hp with ⟨f2, n2, v2, w2, hc67, rfl, rfl⟩ | ⟨f2, n2, v2, w2, b7, x7, f7, fc7, hc67, x9, rfl, rfl⟩
      · refine zx_rv (k2 := 0) (n2 := 0) rfl rfl ?_
        refine zx_ws (ws' := [(a, .inr (3, [.ref na, .ref ka, .ref fa, .ref sa, .ref la])), (na, .inr (0, [.int (nI m), .int (nI (ze_row m r V P b x fr).2.2.1), .int (nI (ze_row m r V P b x fr).2.2.2.1), .int (zb (ze_row m r V P b x fr).2.2.2.2)])), (ka, .inr (1, [.ref ia, .int (nI n2), .int (nI v2), .int (nI w2)])), (fa, .inl (cI, 4096, .inl (zf (ze_fc m x fr fc)))), (sa, .inl (cI, 4096, .inl (zf ns))), (la, .inl (cI, 4096, .inl (zf li))), (t, .inl (cB, 16384, .inl ft)), (ia, .inl (cB, 16384, .inl f2))]) [3, 4, 5, 7, 0, 1, 2, 6] (by decide) rfl ?_
        refine zx_aload_n (pc := 70) C d_PK_write_70 rfl 2 rfl ?_
        refine zx_iload (pc := 71) C d_PK_write_71 7 rfl ?_
        refine zx_iload (pc := 73) C d_PK_write_73 1 rfl ?_
        refine zx_callV (pc := 75) (ix := 53) (As := [.int (nI r), .int (nI (zu (ft i)))]) (b := a) (q0 := 0) (wr := [(ka, .inr (1, [.ref ia, .int (nI n2), .int (nI v2), .int (nI w2)])), (t, .inl (cB, 16384, .inl ft)), (ia, .inl (cB, 16384, .inl f2))]) (st := []) C (zx_cw.of (C.w zw_665)) (by decide +kernel) ⟨by decide +kernel, by decide +kernel⟩ zw_664 zs_PK_addChild zw_662 rfl rfl rfl rfl rfl (k_PK_addChild l D cB cI cL a na ka fa sa la m (ze_row m r V P b x fr).2.2.1 (ze_row m r V P b x fr).2.2.2.1 r (zu (ft i)) (ze_row m r V P b x fr).2.2.2.2 (ze_fc m x fr fc) ns li hEx hr4 hrE) rfl [0, 1, 3, 4, 5] [2, 6, 7] rfl rfl (by decide) (by decide) (by decide) (Nat.le_of_ble_eq_true rfl) (Nat.le_of_ble_eq_true rfl) (Nat.le_of_ble_eq_true rfl) (Nat.le_of_ble_eq_true rfl) d_PK_write_75 (fun o w1 hp => ?_)
        rcases hp with ⟨hc75, rfl, rfl⟩ | ⟨hc75, rfl, rfl⟩
        · refine zx_rv (k2 := 0) (n2 := 0) rfl rfl ?_
          refine zx_ws (ws' := [(a, .inr (3, [.ref na, .ref ka, .ref fa, .ref sa, .ref la])), (na, .inr (0, [.int (nI m), .int (nI (ze_row m r V P b x fr).2.2.1), .int (nI (ze_row m r V P b x fr).2.2.2.1), .int (zb (ze_row m r V P b x fr).2.2.2.2)])), (ka, .inr (1, [.ref ia, .int (nI n2), .int (nI v2), .int (nI w2)])), (fa, .inl (cI, 4096, .inl (zf (ze_fc m x fr fc)))), (sa, .inl (cI, 4096, .inl (zf ns))), (la, .inl (cI, 4096, .inl (zf li))), (t, .inl (cB, 16384, .inl ft)), (ia, .inl (cB, 16384, .inl f2))]) [3, 4, 0, 5, 6, 7, 1, 2] (by decide) rfl ?_
          refine zx_iload (pc := 78) C d_PK_write_78 1 rfl ?_
          refine zx_istore (pc := 80) C d_PK_write_80 (by decide) (lv' := [(8, .int (nI (zu (ft i)))), (7, .int (nI (zu (ft i)))), (0, .ref a), (1, .ref t), (2, .int (nI n8)), (3, .int (nI m)), (4, .ref ia), (5, .int (nI r)), (6, .int (nI i))]) rfl ?_
          refine zx_iload (pc := 82) C d_PK_write_82 0 rfl ?_
          refine zx_istore (pc := 84) C d_PK_write_84 (by decide) (lv' := [(5, .int (nI (zu (ft i)))), (8, .int (nI (zu (ft i)))), (7, .int (nI (zu (ft i)))), (0, .ref a), (1, .ref t), (2, .int (nI n8)), (3, .int (nI m)), (4, .ref ia), (6, .int (nI i))]) rfl ?_
          refine zx_iinc (pc := 86) C d_PK_write_86 8 rfl (v := (nI (i + 1))) (e86_2 c36 c61 f2 n2 v2 w2 hc67 hc75) (by decide) (lv' := [(6, .int (nI (i + 1))), (5, .int (nI (zu (ft i)))), (8, .int (nI (zu (ft i)))), (7, .int (nI (zu (ft i)))), (0, .ref a), (1, .ref t), (2, .int (nI n8)), (3, .int (nI m)), (4, .ref ia)]) rfl ?_
          refine zx_goto (pc := 89) C 33 d_PK_write_89 (by decide) ?_
          refine zx_lv (lv' := [(0, .ref a), (1, .ref t), (2, .int (nI n8)), (3, .int (nI m)), (4, .ref ia), (5, .int (nI (zu (ft i)))), (6, .int (nI (i + 1)))]) [4, 5, 6, 7, 8, 1, 0] rfl ?_
          exact k33_2 c36 c61 f2 n2 v2 w2 hc67 hc75
        · refine zx_rv (k2 := 0) (n2 := 0) rfl rfl ?_
          refine zx_ws (ws' := [(a, .inr (3, [.ref na, .ref ka, .ref fa, .ref sa, .ref la])), (na, .inr (0, [.int (nI m), .int (nI (ze_row m r V P b x fr).2.2.1), .int (nI (ze_row m r V P b x fr).2.2.2.1), .int (zb (ze_row m r V P b x fr).2.2.2.2)])), (ka, .inr (1, [.ref ia, .int (nI n2), .int (nI v2), .int (nI w2)])), (fa, .inl (cI, 4096, .inl (zf (updN (updN (ze_fc m x fr fc) (ze_row m r V P b x fr).2.2.2.1 0) r (ze_row m r V P b x fr).2.2.2.1)))), (sa, .inl (cI, 4096, .inl (zf (updN ns (ze_row m r V P b x fr).2.2.2.1 ((ze_fc m x fr fc) r))))), (la, .inl (cI, 4096, .inl (zf (updN li (ze_row m r V P b x fr).2.2.2.1 (zu (ft i)))))), (t, .inl (cB, 16384, .inl ft)), (ia, .inl (cB, 16384, .inl f2))]) [3, 4, 0, 5, 6, 7, 1, 2] (by decide) rfl ?_
          refine zx_iload (pc := 78) C d_PK_write_78 1 rfl ?_
          refine zx_istore (pc := 80) C d_PK_write_80 (by decide) (lv' := [(8, .int (nI (zu (ft i)))), (7, .int (nI (zu (ft i)))), (0, .ref a), (1, .ref t), (2, .int (nI n8)), (3, .int (nI m)), (4, .ref ia), (5, .int (nI r)), (6, .int (nI i))]) rfl ?_
          refine zx_iload (pc := 82) C d_PK_write_82 0 rfl ?_
          refine zx_istore (pc := 84) C d_PK_write_84 (by decide) (lv' := [(5, .int (nI (zu (ft i)))), (8, .int (nI (zu (ft i)))), (7, .int (nI (zu (ft i)))), (0, .ref a), (1, .ref t), (2, .int (nI n8)), (3, .int (nI m)), (4, .ref ia), (6, .int (nI i))]) rfl ?_
          refine zx_iinc (pc := 86) C d_PK_write_86 8 rfl (v := (nI (i + 1))) (e86_3 c36 c61 f2 n2 v2 w2 hc67 hc75) (by decide) (lv' := [(6, .int (nI (i + 1))), (5, .int (nI (zu (ft i)))), (8, .int (nI (zu (ft i)))), (7, .int (nI (zu (ft i)))), (0, .ref a), (1, .ref t), (2, .int (nI n8)), (3, .int (nI m)), (4, .ref ia)]) rfl ?_
          refine zx_goto (pc := 89) C 33 d_PK_write_89 (by decide) ?_
          refine zx_lv (lv' := [(0, .ref a), (1, .ref t), (2, .int (nI n8)), (3, .int (nI m)), (4, .ref ia), (5, .int (nI (zu (ft i)))), (6, .int (nI (i + 1)))]) [4, 5, 6, 7, 8, 1, 0] rfl ?_
          exact k33_3 c36 c61 f2 n2 v2 w2 hc67 hc75
      · exact zx_rt (k2 := 1) (n2 := 6) rfl rfl (zx_wsT (ws' := [(a, .inr (3, [.ref na, .ref ka, .ref fa, .ref sa, .ref la])), (na, .inr (0, [.int (nI m), .int b7, .int x7, .int f7])), (ka, .inr (1, [.ref ia, .int (nI n2), .int (nI v2), .int (nI w2)])), (fa, .inl (cI, 4096, .inl (zf fc7))), (sa, .inl (cI, 4096, .inl (zf ns))), (la, .inl (cI, 4096, .inl (zf li))), (t, .inl (cB, 16384, .inl ft)), (ia, .inl (cB, 16384, .inl f2)), (x9, .inr (8, []))]) [3, 4, 5, 7, 0, 1, 2, 6, 8] (by decide) rfl (zx_leave hlk9 (zx_noTab ht9 _) (Nat.le_of_ble_eq_true rfl) (Nat.le_of_ble_eq_true rfl) (t67 c36 c61 f2 n2 v2 w2 b7 x7 f7 fc7 hc67 x9)))

set_option maxRecDepth 100000 in
set_option maxHeartbeats 4000000 in
theorem sg_PK_write92 {p : Program} {l : Launch} {e : Env} {s : State} {mi : MethodId} {args : Array Value} {below : List Frame} {meth : Method} {co : Code} {D : va_G} {cB cI cL : ClassId} {w0 : va_W} {kr nr : Nat} {post : Outcome → va_W → Prop} (C : zx_C p s mi args co b_PK_write 9 R_PK zB D zcl (zt cB cI cL) (va_A w0 s.heap.size)) {a na ka ia t fa sa la m n8 b x r n v wb V P i : Nat} {fr : Bool} {fc ns li : Nat → Nat} {ft f : Nat → Int32} (hm : m ≤ 8) (hb : b ≤ 12) (hmb : m + 1 ≤ b) (hx : x ≤ 4096) (hr0 : r < 2 ^ b) (hfc : ∀ j, fc j < 4096) (hz : zS f n v wb V P) (hwb : wb < 8) (hn : n ≤ 16384) (hEb : (ze_row m r V P b x fr).2.2.1 ≤ 12) (hEc : 2 ^ m + 1 < 2 ^ (ze_row m r V P b x fr).2.2.1) (hr9 : meth.sig.returnType = some .int) (hlk9 : meth.locks = false) (hl9 : l.stackTraces = false) (ht9 : co.exceptionTable.toList.map (fun h => (h.startPc, h.endPc, h.handlerPc, h.catchType)) = []) (r126 : ∀ f2 : Nat → Int32, ∀ n2 : Nat, ∀ v2 : Nat, ∀ w2 : Nat, (zS f2 n2 v2 w2 (ze_row m r V P b x fr).1 (ze_row m r V P b x fr).2.1 ∧ w2 < 8 ∧ n2 ≤ 16384) → ∀ f3 : Nat → Int32, ∀ n3 : Nat, ∀ v3 : Nat, ∀ w3 : Nat, (zS f3 n3 v3 w3 ((ze_row m r V P b x fr).1 + (2 ^ m + 1) * 2 ^ (ze_row m r V P b x fr).2.1) ((ze_row m r V P b x fr).2.1 + (ze_row m r V P b x fr).2.2.1) ∧ w3 < 8 ∧ n3 ≤ 16384) → ∀ f4 : Nat → Int32, ∀ u1 : Int32, ∀ u2 : Int32, ((((((ze_row m r V P b x fr).2.1 + (ze_row m r V P b x fr).2.2.1) + 7) / 8 ≤ 16384) ∧ ∀ j, j < (((ze_row m r V P b x fr).2.1 + (ze_row m r V P b x fr).2.2.1) + 7) / 8 → f4 j = zby (((ze_row m r V P b x fr).1 + (2 ^ m + 1) * 2 ^ (ze_row m r V P b x fr).2.1) / 256 ^ j)) ∧ ∀ j, vp_nar .byte (f4 j) = f4 j) → post (.returned (some (.int (nI ((((ze_row m r V P b x fr).2.1 + (ze_row m r V P b x fr).2.2.1) + 7) / 8))))) [(a, .inr (3, [.ref na, .ref ka, .ref fa, .ref sa, .ref la])), (na, .inr (0, [.int (nI m), .int (nI (ze_row m r V P b x fr).2.2.1), .int (nI (ze_row m r V P b x fr).2.2.2.1), .int (zb (ze_row m r V P b x fr).2.2.2.2)])), (ka, .inr (1, [.ref ia, .int (nI ((((ze_row m r V P b x fr).2.1 + (ze_row m r V P b x fr).2.2.1) + 7) / 8)), .int u1, .int u2])), (fa, .inl (cI, 4096, .inl (zf (ze_fc m x fr fc)))), (sa, .inl (cI, 4096, .inl (zf ns))), (la, .inl (cI, 4096, .inl (zf li))), (t, .inl (cB, 16384, .inl ft)), (ia, .inl (cB, 16384, .inl f4))]) (t123 : ∀ f2 : Nat → Int32, ∀ n2 : Nat, ∀ v2 : Nat, ∀ w2 : Nat, (zS f2 n2 v2 w2 (ze_row m r V P b x fr).1 (ze_row m r V P b x fr).2.1 ∧ w2 < 8 ∧ n2 ≤ 16384) → ∀ f3 : Nat → Int32, ∀ n3 : Nat, ∀ v3 : Nat, ∀ w3 : Nat, (zS f3 n3 v3 w3 ((ze_row m r V P b x fr).1 + (2 ^ m + 1) * 2 ^ (ze_row m r V P b x fr).2.1) ((ze_row m r V P b x fr).2.1 + (ze_row m r V P b x fr).2.2.1) ∧ w3 < 8 ∧ n3 ≤ 16384) → ∀ f4 : Nat → Int32, ∀ u0 : Int32, ∀ u1 : Int32, ∀ u2 : Int32, (16384 < (((ze_row m r V P b x fr).2.1 + (ze_row m r V P b x fr).2.2.1) + 7) / 8 ∧ ∀ j, vp_nar .byte (f4 j) = f4 j) → ∀ x9 : Nat, post (.threw x9) [(a, .inr (3, [.ref na, .ref ka, .ref fa, .ref sa, .ref la])), (na, .inr (0, [.int (nI m), .int (nI (ze_row m r V P b x fr).2.2.1), .int (nI (ze_row m r V P b x fr).2.2.2.1), .int (zb (ze_row m r V P b x fr).2.2.2.2)])), (ka, .inr (1, [.ref ia, .int u0, .int u1, .int u2])), (fa, .inl (cI, 4096, .inl (zf (ze_fc m x fr fc)))), (sa, .inl (cI, 4096, .inl (zf ns))), (la, .inl (cI, 4096, .inl (zf li))), (t, .inl (cB, 16384, .inl ft)), (ia, .inl (cB, 16384, .inl f4)), (x9, .inr (8, []))]) (t116 : ∀ f2 : Nat → Int32, ∀ n2 : Nat, ∀ v2 : Nat, ∀ w2 : Nat, (zS f2 n2 v2 w2 (ze_row m r V P b x fr).1 (ze_row m r V P b x fr).2.1 ∧ w2 < 8 ∧ n2 ≤ 16384) → ∀ f3 : Nat → Int32, ∀ n3 : Nat, ∀ v3 : Nat, ∀ w3 : Nat, (16384 < ((ze_row m r V P b x fr).2.1 + (ze_row m r V P b x fr).2.2.1) / 8 ∧ ∀ j, vp_nar .byte (f3 j) = f3 j) → ∀ x9 : Nat, post (.threw x9) [(a, .inr (3, [.ref na, .ref ka, .ref fa, .ref sa, .ref la])), (na, .inr (0, [.int (nI m), .int (nI (ze_row m r V P b x fr).2.2.1), .int (nI (ze_row m r V P b x fr).2.2.2.1), .int (zb (ze_row m r V P b x fr).2.2.2.2)])), (ka, .inr (1, [.ref ia, .int (nI n3), .int (nI v3), .int (nI w3)])), (fa, .inl (cI, 4096, .inl (zf (ze_fc m x fr fc)))), (sa, .inl (cI, 4096, .inl (zf ns))), (la, .inl (cI, 4096, .inl (zf li))), (t, .inl (cB, 16384, .inl ft)), (ia, .inl (cB, 16384, .inl f3)), (x9, .inr (8, []))]) (t95 : ∀ f2 : Nat → Int32, ∀ n2 : Nat, ∀ v2 : Nat, ∀ w2 : Nat, ∀ b7 : Int32, ∀ x7 : Int32, ∀ f7 : Int32, ∀ fc7 : Nat → Nat, (16384 < (ze_row m r V P b x fr).2.1 / 8 ∧ (∀ j, fc7 j < 4096) ∧ ∀ j, vp_nar .byte (f2 j) = f2 j) → ∀ x9 : Nat, post (.threw x9) [(a, .inr (3, [.ref na, .ref ka, .ref fa, .ref sa, .ref la])), (na, .inr (0, [.int (nI m), .int b7, .int x7, .int f7])), (ka, .inr (1, [.ref ia, .int (nI n2), .int (nI v2), .int (nI w2)])), (fa, .inl (cI, 4096, .inl (zf fc7))), (sa, .inl (cI, 4096, .inl (zf ns))), (la, .inl (cI, 4096, .inl (zf li))), (t, .inl (cB, 16384, .inl ft)), (ia, .inl (cB, 16384, .inl f2)), (x9, .inr (8, []))]) : zx_At p l e (zr 12 1 6) s mi args below meth co (zx_Q below s D zcl w0 kr nr (zr 12 1 6) post) D zcl (va_A w0 s.heap.size) 9 [(0, .ref a), (1, .ref t), (2, .int (nI n8)), (3, .int (nI m)), (4, .ref ia), (5, .int (nI r)), (6, .int (nI i))] [(a, .inr (3, [.ref na, .ref ka, .ref fa, .ref sa, .ref la])), (na, .inr (0, [.int (nI m), .int (nI b), .int (nI x), .int (zb fr)])), (ka, .inr (1, [.ref ia, .int (nI n), .int (nI v), .int (nI wb)])), (fa, .inl (cI, 4096, .inl (zf fc))), (sa, .inl (cI, 4096, .inl (zf ns))), (la, .inl (cI, 4096, .inl (zf li))), (t, .inl (cB, 16384, .inl ft)), (ia, .inl (cB, 16384, .inl f))] 0 0 92 [] := by
  refine zx_aload_n (pc := 92) C d_PK_write_92 rfl 0 rfl ?_
  refine zx_iload (pc := 93) C d_PK_write_93 5 rfl ?_
  refine zx_callV (pc := 95) (ix := 50) (As := [.int (nI r)]) (b := a) (q0 := 0) (wr := [(sa, .inl (cI, 4096, .inl (zf ns))), (la, .inl (cI, 4096, .inl (zf li))), (t, .inl (cB, 16384, .inl ft))]) (st := []) C (zx_cw.of (C.w zw_659)) (by decide +kernel) ⟨by decide +kernel, by decide +kernel⟩ zw_658 zs_PK_writeRow zw_656 rfl rfl rfl rfl rfl (k_PK_writeRow l D cB cI cL hl9 r a na ka ia fa sa la m b x n v wb V P fr fc f hm hb hmb hx hr0 hfc hz hwb hn) rfl [0, 1, 2, 7, 3] [4, 5, 6] rfl rfl (by decide) (by decide) (by decide) (Nat.le_of_ble_eq_true rfl) (Nat.le_of_ble_eq_true rfl) (Nat.le_of_ble_eq_true rfl) (Nat.le_of_ble_eq_true rfl) d_PK_write_95 (fun o w1 hp => ?_)
  rcases hp with ⟨f2, n2, v2, w2, hc95, rfl, rfl⟩ | ⟨f2, n2, v2, w2, b7, x7, f7, fc7, hc95, x9, rfl, rfl⟩
  · refine zx_rv (k2 := 0) (n2 := 0) rfl rfl ?_
    refine zx_ws (ws' := [(a, .inr (3, [.ref na, .ref ka, .ref fa, .ref sa, .ref la])), (na, .inr (0, [.int (nI m), .int (nI (ze_row m r V P b x fr).2.2.1), .int (nI (ze_row m r V P b x fr).2.2.2.1), .int (zb (ze_row m r V P b x fr).2.2.2.2)])), (ka, .inr (1, [.ref ia, .int (nI n2), .int (nI v2), .int (nI w2)])), (fa, .inl (cI, 4096, .inl (zf (ze_fc m x fr fc)))), (sa, .inl (cI, 4096, .inl (zf ns))), (la, .inl (cI, 4096, .inl (zf li))), (t, .inl (cB, 16384, .inl ft)), (ia, .inl (cB, 16384, .inl f2))]) [3, 4, 5, 7, 0, 1, 2, 6] (by decide) rfl ?_
    refine zx_aload_n (pc := 98) C d_PK_write_98 rfl 0 rfl ?_
    refine zx_get (pc := 99) (ci := 3) (Cn := R_PK) (T := T_PK) (N := 5) (v := .ref ka) C zu_PK 0 rfl rfl 1 (by decide) zw_114 rfl rfl d_PK_write_99 ?_
    refine zx_aload_n (pc := 102) C d_PK_write_102 rfl 0 rfl ?_
    refine zx_get (pc := 103) (ci := 3) (Cn := R_PK) (T := T_PK) (N := 5) (v := .ref na) C zu_PK 0 rfl rfl 0 (by decide) zw_113 rfl rfl d_PK_write_103 ?_
    refine zx_callV (pc := 106) (ix := 57) (As := []) (b := na) (q0 := 1) (wr := [(a, .inr (3, [.ref na, .ref ka, .ref fa, .ref sa, .ref la])), (ka, .inr (1, [.ref ia, .int (nI n2), .int (nI v2), .int (nI w2)])), (fa, .inl (cI, 4096, .inl (zf (ze_fc m x fr fc)))), (sa, .inl (cI, 4096, .inl (zf ns))), (la, .inl (cI, 4096, .inl (zf li))), (t, .inl (cB, 16384, .inl ft)), (ia, .inl (cB, 16384, .inl f2))]) (st := [.ref ka]) C (zx_cw.of (C.w zw_292)) (by decide +kernel) ⟨by decide +kernel, by decide +kernel⟩ zw_290 zw_291 zw_667 rfl rfl rfl rfl rfl (k_NU_ending l D cB cI cL (zr 0 0 0) na m (nI (ze_row m r V P b x fr).2.2.1) (nI (ze_row m r V P b x fr).2.2.2.1) (zb (ze_row m r V P b x fr).2.2.2.2) (by omega)) rfl [1] [0, 2, 3, 4, 5, 6, 7] rfl rfl (by decide) (by decide) (by decide) (Nat.le_of_ble_eq_true rfl) (Nat.le_of_ble_eq_true rfl) (Nat.le_of_ble_eq_true rfl) (Nat.le_of_ble_eq_true rfl) d_PK_write_106 (fun o w1 hp => ?_)
    obtain ⟨rfl, rfl⟩ := hp
    refine zx_ri (k2 := 0) (n2 := 0) rfl rfl ?_
    refine zx_ws (ws' := [(a, .inr (3, [.ref na, .ref ka, .ref fa, .ref sa, .ref la])), (na, .inr (0, [.int (nI m), .int (nI (ze_row m r V P b x fr).2.2.1), .int (nI (ze_row m r V P b x fr).2.2.2.1), .int (zb (ze_row m r V P b x fr).2.2.2.2)])), (ka, .inr (1, [.ref ia, .int (nI n2), .int (nI v2), .int (nI w2)])), (fa, .inl (cI, 4096, .inl (zf (ze_fc m x fr fc)))), (sa, .inl (cI, 4096, .inl (zf ns))), (la, .inl (cI, 4096, .inl (zf li))), (t, .inl (cB, 16384, .inl ft)), (ia, .inl (cB, 16384, .inl f2))]) [0, 7, 1, 2, 3, 4, 5, 6] (by decide) rfl ?_
    refine zx_aload_n (pc := 109) C d_PK_write_109 rfl 0 rfl ?_
    refine zx_get (pc := 110) (ci := 3) (Cn := R_PK) (T := T_PK) (N := 5) (v := .ref na) C zu_PK 0 rfl rfl 0 (by decide) zw_113 rfl rfl d_PK_write_110 ?_
    refine zx_getN (pc := 113) (ci := 0) (Cn := R_NU) (T := T_NU) (N := 4) (v := .int (nI (ze_row m r V P b x fr).2.2.1)) C zu_NU 1 rfl rfl 1 (by decide) zw_47 rfl rfl d_PK_write_113 ?_
    refine zx_callV (pc := 116) (ix := 65) (As := [.int (nI (2 ^ m + 1)), .int (nI (ze_row m r V P b x fr).2.2.1)]) (b := ka) (q0 := 2) (wr := [(a, .inr (3, [.ref na, .ref ka, .ref fa, .ref sa, .ref la])), (na, .inr (0, [.int (nI m), .int (nI (ze_row m r V P b x fr).2.2.1), .int (nI (ze_row m r V P b x fr).2.2.2.1), .int (zb (ze_row m r V P b x fr).2.2.2.2)])), (fa, .inl (cI, 4096, .inl (zf (ze_fc m x fr fc)))), (sa, .inl (cI, 4096, .inl (zf ns))), (la, .inl (cI, 4096, .inl (zf li))), (t, .inl (cB, 16384, .inl ft))]) (st := []) C (zx_cw.of (C.w zw_378)) (by decide +kernel) ⟨by decide +kernel, by decide +kernel⟩ zw_376 zw_377 zw_375 rfl rfl rfl rfl rfl (k_BS_put l D cB cI cL hl9 ka ia n2 v2 w2 (2 ^ m + 1) (ze_row m r V P b x fr).2.2.1 (ze_row m r V P b x fr).1 (ze_row m r V P b x fr).2.1 f2 hc95.1 hc95.2.1 hc95.2.2 hEc hEb) rfl [2, 7] [0, 1, 3, 4, 5, 6] rfl rfl (by decide) (by decide) (by decide) (Nat.le_of_ble_eq_true rfl) (Nat.le_of_ble_eq_true rfl) (Nat.le_of_ble_eq_true rfl) (Nat.le_of_ble_eq_true rfl) d_PK_write_116 (fun o w1 hp => ?_)
    rcases hp with ⟨f3, n3, v3, w3, hc116, rfl, rfl⟩ | ⟨f3, n3, v3, w3, hc116, x9, rfl, rfl⟩
    · refine zx_rv (k2 := 0) (n2 := 0) rfl rfl ?_
      refine zx_ws (ws' := [(a, .inr (3, [.ref na, .ref ka, .ref fa, .ref sa, .ref la])), (na, .inr (0, [.int (nI m), .int (nI (ze_row m r V P b x fr).2.2.1), .int (nI (ze_row m r V P b x fr).2.2.2.1), .int (zb (ze_row m r V P b x fr).2.2.2.2)])), (ka, .inr (1, [.ref ia, .int (nI n3), .int (nI v3), .int (nI w3)])), (fa, .inl (cI, 4096, .inl (zf (ze_fc m x fr fc)))), (sa, .inl (cI, 4096, .inl (zf ns))), (la, .inl (cI, 4096, .inl (zf li))), (t, .inl (cB, 16384, .inl ft)), (ia, .inl (cB, 16384, .inl f3))]) [0, 1, 6, 2, 3, 4, 5, 7] (by decide) rfl ?_
      refine zx_aload_n (pc := 119) C d_PK_write_119 rfl 0 rfl ?_
      refine zx_get (pc := 120) (ci := 3) (Cn := R_PK) (T := T_PK) (N := 5) (v := .ref ka) C zu_PK 0 rfl rfl 1 (by decide) zw_114 rfl rfl d_PK_write_120 ?_
      refine zx_callV (pc := 123) (ix := 68) (As := []) (b := ka) (q0 := 2) (wr := [(a, .inr (3, [.ref na, .ref ka, .ref fa, .ref sa, .ref la])), (na, .inr (0, [.int (nI m), .int (nI (ze_row m r V P b x fr).2.2.1), .int (nI (ze_row m r V P b x fr).2.2.2.1), .int (zb (ze_row m r V P b x fr).2.2.2.2)])), (fa, .inl (cI, 4096, .inl (zf (ze_fc m x fr fc)))), (sa, .inl (cI, 4096, .inl (zf ns))), (la, .inl (cI, 4096, .inl (zf li))), (t, .inl (cB, 16384, .inl ft))]) (st := []) C (zx_cw.of (C.w zw_671)) (by decide +kernel) ⟨by decide +kernel, by decide +kernel⟩ zw_669 zw_670 zw_668 rfl rfl rfl rfl rfl (k_BS_finish l D cB cI cL hl9 ka ia n3 v3 w3 ((ze_row m r V P b x fr).1 + (2 ^ m + 1) * 2 ^ (ze_row m r V P b x fr).2.1) ((ze_row m r V P b x fr).2.1 + (ze_row m r V P b x fr).2.2.1) f3 hc116.1 hc116.2.1 hc116.2.2) rfl [2, 7] [0, 1, 3, 4, 5, 6] rfl rfl (by decide) (by decide) (by decide) (Nat.le_of_ble_eq_true rfl) (Nat.le_of_ble_eq_true rfl) (Nat.le_of_ble_eq_true rfl) (Nat.le_of_ble_eq_true rfl) d_PK_write_123 (fun o w1 hp => ?_)
      rcases hp with ⟨f4, u1, u2, hc123, rfl, rfl⟩ | ⟨f4, u0, u1, u2, hc123, x9, rfl, rfl⟩
      · refine zx_ri (k2 := 0) (n2 := 0) rfl rfl ?_
        refine zx_ws (ws' := [(a, .inr (3, [.ref na, .ref ka, .ref fa, .ref sa, .ref la])), (na, .inr (0, [.int (nI m), .int (nI (ze_row m r V P b x fr).2.2.1), .int (nI (ze_row m r V P b x fr).2.2.2.1), .int (zb (ze_row m r V P b x fr).2.2.2.2)])), (ka, .inr (1, [.ref ia, .int (nI ((((ze_row m r V P b x fr).2.1 + (ze_row m r V P b x fr).2.2.1) + 7) / 8)), .int u1, .int u2])), (fa, .inl (cI, 4096, .inl (zf (ze_fc m x fr fc)))), (sa, .inl (cI, 4096, .inl (zf ns))), (la, .inl (cI, 4096, .inl (zf li))), (t, .inl (cB, 16384, .inl ft)), (ia, .inl (cB, 16384, .inl f4))]) [0, 1, 6, 2, 3, 4, 5, 7] (by decide) rfl ?_
        exact zx_iret (pc := 126) C hr9 hlk9 (Nat.zero_le _) (Nat.zero_le _) d_PK_write_126 (r126 f2 n2 v2 w2 hc95 f3 n3 v3 w3 hc116 f4 u1 u2 hc123)
      · exact zx_rt (k2 := 1) (n2 := 6) rfl rfl (zx_wsT (ws' := [(a, .inr (3, [.ref na, .ref ka, .ref fa, .ref sa, .ref la])), (na, .inr (0, [.int (nI m), .int (nI (ze_row m r V P b x fr).2.2.1), .int (nI (ze_row m r V P b x fr).2.2.2.1), .int (zb (ze_row m r V P b x fr).2.2.2.2)])), (ka, .inr (1, [.ref ia, .int u0, .int u1, .int u2])), (fa, .inl (cI, 4096, .inl (zf (ze_fc m x fr fc)))), (sa, .inl (cI, 4096, .inl (zf ns))), (la, .inl (cI, 4096, .inl (zf li))), (t, .inl (cB, 16384, .inl ft)), (ia, .inl (cB, 16384, .inl f4)), (x9, .inr (8, []))]) [0, 1, 6, 2, 3, 4, 5, 7, 8] (by decide) rfl (zx_leave hlk9 (zx_noTab ht9 _) (Nat.le_of_ble_eq_true rfl) (Nat.le_of_ble_eq_true rfl) (t123 f2 n2 v2 w2 hc95 f3 n3 v3 w3 hc116 f4 u0 u1 u2 hc123 x9)))
    · exact zx_rt (k2 := 1) (n2 := 6) rfl rfl (zx_wsT (ws' := [(a, .inr (3, [.ref na, .ref ka, .ref fa, .ref sa, .ref la])), (na, .inr (0, [.int (nI m), .int (nI (ze_row m r V P b x fr).2.2.1), .int (nI (ze_row m r V P b x fr).2.2.2.1), .int (zb (ze_row m r V P b x fr).2.2.2.2)])), (ka, .inr (1, [.ref ia, .int (nI n3), .int (nI v3), .int (nI w3)])), (fa, .inl (cI, 4096, .inl (zf (ze_fc m x fr fc)))), (sa, .inl (cI, 4096, .inl (zf ns))), (la, .inl (cI, 4096, .inl (zf li))), (t, .inl (cB, 16384, .inl ft)), (ia, .inl (cB, 16384, .inl f3)), (x9, .inr (8, []))]) [0, 1, 6, 2, 3, 4, 5, 7, 8] (by decide) rfl (zx_leave hlk9 (zx_noTab ht9 _) (Nat.le_of_ble_eq_true rfl) (Nat.le_of_ble_eq_true rfl) (t116 f2 n2 v2 w2 hc95 f3 n3 v3 w3 hc116 x9)))
  · exact zx_rt (k2 := 1) (n2 := 6) rfl rfl (zx_wsT (ws' := [(a, .inr (3, [.ref na, .ref ka, .ref fa, .ref sa, .ref la])), (na, .inr (0, [.int (nI m), .int b7, .int x7, .int f7])), (ka, .inr (1, [.ref ia, .int (nI n2), .int (nI v2), .int (nI w2)])), (fa, .inl (cI, 4096, .inl (zf fc7))), (sa, .inl (cI, 4096, .inl (zf ns))), (la, .inl (cI, 4096, .inl (zf li))), (t, .inl (cB, 16384, .inl ft)), (ia, .inl (cB, 16384, .inl f2)), (x9, .inr (8, []))]) [3, 4, 5, 7, 0, 1, 2, 6, 8] (by decide) rfl (zx_leave hlk9 (zx_noTab ht9 _) (Nat.le_of_ble_eq_true rfl) (Nat.le_of_ble_eq_true rfl) (t95 f2 n2 v2 w2 b7 x7 f7 fc7 hc95 x9)))

/-- what write gives, by the writer's function -/
def zp_write (a na ka t ia fa sa la : Nat) (ft : Nat → Int32) (VP : Nat × Nat) (cB cI : ClassId) : Outcome → va_W → Prop := fun o w =>
  (∃ (m1 b1 x1 f1 u0 u1 u2 : Int32) (fc ns li : Nat → Nat) (f : Nat → Int32), ((VP.2 + 7) / 8 ≤ 16384 ∧ (∀ j, j < (VP.2 + 7) / 8 → f j = zby (VP.1 / 256 ^ j)) ∧ (∀ j, fc j < 4096) ∧ (∀ j, ns j < 4096) ∧ (∀ j, li j < 256) ∧ (∀ j, vp_nar .byte (f j) = f j)) ∧ o = .returned (some (.int (nI ((VP.2 + 7) / 8)))) ∧ w = [(a, .inr (3, [.ref na, .ref ka, .ref fa, .ref sa, .ref la])), (na, .inr (0, [.int m1, .int b1, .int x1, .int f1])), (ka, .inr (1, [.ref ia, .int u0, .int u1, .int u2])), (fa, .inl (cI, 4096, .inl (zf fc))), (sa, .inl (cI, 4096, .inl (zf ns))), (la, .inl (cI, 4096, .inl (zf li))), (t, .inl (cB, 16384, .inl ft)), (ia, .inl (cB, 16384, .inl f))]) ∨
  (∃ (m1 b1 x1 f1 u0 u1 u2 : Int32) (fc ns li : Nat → Nat) (f : Nat → Int32), (16384 < (VP.2 + 7) / 8 ∧ (∀ j, fc j < 4096) ∧ (∀ j, ns j < 4096) ∧ (∀ j, li j < 256) ∧ (∀ j, vp_nar .byte (f j) = f j)) ∧ ∃ x0 : Nat, o = .threw x0 ∧ w = [(a, .inr (3, [.ref na, .ref ka, .ref fa, .ref sa, .ref la])), (na, .inr (0, [.int m1, .int b1, .int x1, .int f1])), (ka, .inr (1, [.ref ia, .int u0, .int u1, .int u2])), (fa, .inl (cI, 4096, .inl (zf fc))), (sa, .inl (cI, 4096, .inl (zf ns))), (la, .inl (cI, 4096, .inl (zf li))), (t, .inl (cB, 16384, .inl ft)), (ia, .inl (cB, 16384, .inl f)), (x0, .inr (8, []))])
set_option maxHeartbeats 2000000 in
theorem k_PK_write (l : Launch) (D : va_G) (cB cI cL : ClassId) (hl : l.stackTraces = false) (a na ka qb ia t fa sa la m n8 : Nat) (fc0 ns0 li0 : Nat → Nat) (ft f0 : Nat → Int32) (m9 b9 x9 f9 n9 w9 v9 : Int32) (hm : 2 ≤ m ∧ m ≤ 8) (hn8 : 1 ≤ n8 ∧ n8 ≤ 16384) (hix : ∀ j, j < n8 → zu (ft j) < 2 ^ m) (hfc0 : ∀ j, fc0 j < 4096) (hns0 : ∀ j, ns0 j < 4096) (hli0 : ∀ j, li0 j < 256) (hby0 : ∀ j, vp_nar .byte (f0 j) = f0 j) : zx_K l zB D zcl (zt cB cI cL) y_PK_write b_PK_write 9 (some .int) [] 0 0 (zr 12 1 6) [.ref a, .ref t, .int (nI n8), .int (nI m), .ref ia] [(a, .inr (3, [.ref na, .ref ka, .ref fa, .ref sa, .ref la])), (na, .inr (0, [.int m9, .int b9, .int x9, .int f9])), (ka, .inr (1, [.ref qb, .int n9, .int w9, .int v9])), (fa, .inl (cI, 4096, .inl (zf fc0))), (sa, .inl (cI, 4096, .inl (zf ns0))), (la, .inl (cI, 4096, .inl (zf li0))), (t, .inl (cB, 16384, .inl ft)), (ia, .inl (cB, 16384, .inl f0))] (zp_write a na ka t ia fa sa la ft (ze_run m (fun j => zu (ft j)) (n8 - 1) 1 (zu (ft 0)) (2 ^ m) (m + 1) (m + 1) (2 ^ m + 2) true (fun _ _ => 0)) cB cI) := by
  refine zx_K.mk (Nat.le_of_ble_eq_true rfl) (fun p e s mm below meth c9 C hr hlk ht hnm => ?_)
  have hp8 := zp_pow8 hm.2
  have loop : ∀ (d i r V P b x : Nat) (fr : Bool) (ch : Nat → Nat → Nat) (fc ns li : Nat → Nat) (f : Nat → Int32) (n v wb : Nat), i + d = n8 → ze_inv m b x fr → zt_ok m (ze_top x fr) fc ns li ch → (∀ q i', ze_top x fr ≤ q → ch q i' = 0) → zval m (ze_top x fr) r → (∀ j, fc j < 4096) → (∀ j, ns j < 4096) → (∀ j, li j < 256) → zS f n v wb V P → wb < 8 → n ≤ 16384 → ze_run m (fun j => zu (ft j)) d i r V P b x fr ch = (ze_run m (fun j => zu (ft j)) (n8 - 1) 1 (zu (ft 0)) (2 ^ m) (m + 1) (m + 1) (2 ^ m + 2) true (fun _ _ => 0)) → zx_At p l e (zr 12 1 6) s mm (([.ref a, .ref t, .int (nI n8), .int (nI m), .ref ia] : List Value)).toArray below meth c9 (zx_Q below s D zcl [(a, .inr (3, [.ref na, .ref ka, .ref fa, .ref sa, .ref la])), (na, .inr (0, [.int m9, .int b9, .int x9, .int f9])), (ka, .inr (1, [.ref qb, .int n9, .int w9, .int v9])), (fa, .inl (cI, 4096, .inl (zf fc0))), (sa, .inl (cI, 4096, .inl (zf ns0))), (la, .inl (cI, 4096, .inl (zf li0))), (t, .inl (cB, 16384, .inl ft)), (ia, .inl (cB, 16384, .inl f0))] 0 0 (zr 12 1 6) (zp_write a na ka t ia fa sa la ft (ze_run m (fun j => zu (ft j)) (n8 - 1) 1 (zu (ft 0)) (2 ^ m) (m + 1) (m + 1) (2 ^ m + 2) true (fun _ _ => 0)) cB cI)) D zcl (va_A [(a, .inr (3, [.ref na, .ref ka, .ref fa, .ref sa, .ref la])), (na, .inr (0, [.int m9, .int b9, .int x9, .int f9])), (ka, .inr (1, [.ref qb, .int n9, .int w9, .int v9])), (fa, .inl (cI, 4096, .inl (zf fc0))), (sa, .inl (cI, 4096, .inl (zf ns0))), (la, .inl (cI, 4096, .inl (zf li0))), (t, .inl (cB, 16384, .inl ft)), (ia, .inl (cB, 16384, .inl f0))] s.heap.size) 9 [(0, .ref a), (1, .ref t), (2, .int (nI n8)), (3, .int (nI m)), (4, .ref ia), (5, .int (nI r)), (6, .int (nI i))] [(a, .inr (3, [.ref na, .ref ka, .ref fa, .ref sa, .ref la])), (na, .inr (0, [.int (nI m), .int (nI b), .int (nI x), .int (zb fr)])), (ka, .inr (1, [.ref ia, .int (nI n), .int (nI v), .int (nI wb)])), (fa, .inl (cI, 4096, .inl (zf fc))), (sa, .inl (cI, 4096, .inl (zf ns))), (la, .inl (cI, 4096, .inl (zf li))), (t, .inl (cB, 16384, .inl ft)), (ia, .inl (cB, 16384, .inl f))] 0 0 33 [] := by
    intro d
    induction d with
    | zero =>
      intro i r V P b x fr ch fc ns li f n v wb hd hi htr hz0 hr0 hfc hns hli hzs hwb hn hrun
      have hi2 := hi
      obtain ⟨hb1, hx1, hxb, hfr⟩ := hi2
      have hrx : r ≤ x := by
        rcases hr0 with q | q
        · omega
        · have q2 := q.2
          unfold ze_top at q2
          split at q2 <;> omega
      have hrb : r < 2 ^ b := by omega
      have hE := ze_inv_row hm hi r V P
      have hEx : (ze_row m r V P b x fr).2.2.2.1 < 4096 := by have := hE.2.1.2; omega
      have hrE : (ze_row m r V P b x fr).2.2.2.2 = false → r ≠ (ze_row m r V P b x fr).2.2.2.1 := fun q z => by
        rw [(ze_child (by omega) fc q).1] at z
        rcases hr0 with y | y
        · have : x ≤ ze_top x fr := by unfold ze_top; split <;> omega
          omega
        · omega
      have key : nI n8 ≤ nI i := by rw [show i = n8 by omega]; exact Int32.le_refl _
      rw [ze_run] at hrun
      refine sg_PK_write33 C hm.2 hb1.2 hb1.1 (by omega) hrb hfc hzs hwb hn (by omega) hns hli hEx hrE hr hlk hl ht (fun _ => ?_) (fun z => absurd key z) (fun z => absurd key z) (fun z => absurd key z) (fun z => absurd key z) (fun z => absurd key z) (fun z => absurd key z) (fun z => absurd key z) (fun z => absurd key z) (fun z => absurd key z)
      refine sg_PK_write92 C hm.2 hb1.2 hb1.1 (by omega) hrb hfc hzs hwb hn hE.1.2 (by have h1 := hE.2.1.1; have h2 := hE.2.2.1; omega) hr hlk hl ht (fun f2 n2 v2 w2 _ f3 n3 v3 w3 _ f4 u1 u2 h => ?_) (fun f2 n2 v2 w2 _ f3 n3 v3 w3 _ f4 u0 u1 u2 h x0 => ?_) (fun f2 n2 v2 w2 _ f3 n3 v3 w3 h x0 => ?_) (fun f2 n2 v2 w2 b7 x7 f7 fc7 h x0 => ?_)
      · rw [← hrun]
        exact Or.inl ⟨_, _, _, _, _, _, _, _, _, _, _, ⟨h.1.1, h.1.2, ze_fc_lt hfc, hns, hli, h.2⟩, rfl, rfl⟩
      · rw [← hrun]
        exact Or.inr ⟨_, _, _, _, _, _, _, _, _, _, _, ⟨h.1, ze_fc_lt hfc, hns, hli, h.2⟩, x0, rfl, rfl⟩
      · rw [← hrun]
        exact Or.inr ⟨_, _, _, _, _, _, _, _, _, _, _, ⟨by have := h.1; show 16384 < (_ + 7) / 8; omega, ze_fc_lt hfc, hns, hli, h.2⟩, x0, rfl, rfl⟩
      · rw [← hrun]
        exact Or.inr ⟨_, _, _, _, _, _, _, _, _, _, _, ⟨by have := h.1; show 16384 < (_ + 7) / 8; omega, h.2.1, hns, hli, h.2.2⟩, x0, rfl, rfl⟩
    | succ d ih =>
      intro i r V P b x fr ch fc ns li f n v wb hd hi htr hz0 hr0 hfc hns hli hzs hwb hn hrun
      have hi2 := hi
      obtain ⟨hb1, hx1, hxb, hfr⟩ := hi2
      have hrx : r ≤ x := by
        rcases hr0 with q | q
        · omega
        · have q2 := q.2
          unfold ze_top at q2
          split at q2 <;> omega
      have hrb : r < 2 ^ b := by omega
      have hE := ze_inv_row hm hi r V P
      have hEx : (ze_row m r V P b x fr).2.2.2.1 < 4096 := by have := hE.2.1.2; omega
      have hrE : (ze_row m r V P b x fr).2.2.2.2 = false → r ≠ (ze_row m r V P b x fr).2.2.2.1 := fun q z => by
        rw [(ze_child (by omega) fc q).1] at z
        rcases hr0 with y | y
        · have : x ≤ ze_top x fr := by unfold ze_top; split <;> omega
          omega
        · omega
      have nk : ¬ nI n8 ≤ nI i := fun z => absurd ((nI_leI (by omega) (by omega)).mp z) (by omega)
      have htop : ze_top x fr ≤ 4096 := by unfold ze_top; split <;> omega
      have hfind := zt_find htr htop hr0 (zu (ft i))
      have hch4 : ch r (zu (ft i)) < 4096 ∨ ch r (zu (ft i)) = 0 := by
        by_cases q : ch r (zu (ft i)) = 0
        · exact Or.inr q
        · rcases zt_val htr hr0 q with y | y
          · left; omega
          · left; omega
      have k0 : nI (zk_find ns li (zu (ft i)) 4096 (fc r)) = 0 ↔ ch r (zu (ft i)) = 0 := by
        rw [hfind]
        exact zp_eq (k := 0) (K := 0) rfl (by omega) (by decide)
      have hixi := hix i (by omega)
      rw [ze_run] at hrun
      refine sg_PK_write33 C hm.2 hb1.2 hb1.1 (by omega) hrb hfc hzs hwb hn (by omega) hns hli hEx hrE hr hlk hl ht (fun z => absurd z nk) (fun _ => ⟨rfl, by omega⟩) (fun _ => zu_and _) (fun _ _ => nI_1 i) (fun _ z => ?_) (fun _ _ _ _ _ _ _ _ => nI_1 i) (fun _ z f2 n2 v2 w2 h hE1 => ?_) (fun _ _ _ _ _ _ _ _ => nI_1 i) (fun _ z f2 n2 v2 w2 h hE1 => ?_) (fun _ z f2 n2 v2 w2 b7 x7 f7 fc7 h x0 => ?_)
      · have hne := mt k0.mpr z
        rw [if_neg hne] at hrun
        rw [hfind]
        exact ih (i + 1) _ V P b x fr ch fc ns li f n v wb (by omega) hi htr hz0 (zt_val htr hr0 hne) hfc hns hli hzs hwb hn hrun
      · rw [if_pos (k0.mp z)] at hrun
        refine ih (i + 1) _ _ _ _ _ _ _ _ ns li f2 n2 v2 w2 (by omega) hE ?_ ?_ (Or.inl hixi) (ze_fc_lt hfc) hns hli h.1 h.2.1 h.2.2 hrun
        · rw [(ze_full fc hE1).2, zk_ch, if_pos hE1, ze_top, if_pos hE1, (ze_full fc hE1).1]
          exact zt_clr m fc ns li
        · intro q i' _
          rw [zk_ch, if_pos hE1]
      · rw [if_pos (k0.mp z)] at hrun
        have hnt : ¬ (ze_row m r V P b x fr).2.2.2.2 = true := by rw [hE1]; exact Bool.false_ne_true
        obtain ⟨e1, e2⟩ := ze_child (m := m) (b := b) (r := r) (V := V) (P := P) (show x ≤ 4095 by omega) fc hE1
        have hxt : x ≤ ze_top x fr := by unfold ze_top; split <;> omega
        refine ih (i + 1) _ _ _ _ _ _ _ _ _ _ f2 n2 v2 w2 (by omega) hE ?_ ?_ (Or.inl hixi) (updN_lt (updN_lt (ze_fc_lt hfc) (by decide)) hEx) (updN_lt hns (ze_fc_lt hfc r)) (updN_lt hli (zu_lt _)) h.1 h.2.1 h.2.2 hrun
        · rw [e2, zk_ch, if_neg hnt, ze_top, if_neg hnt, e1]
          exact zt_add htr (by omega) (fun i' => hz0 _ i' (Nat.le_refl _)) hr0
        · intro q i' hq
          rw [ze_top, if_neg hnt, e1] at hq
          rw [zk_ch, if_neg hnt, zk_add, if_neg (fun y => by have := y.1; omega)]
          exact hz0 q i' (by omega)
      · rw [if_pos (k0.mp z)] at hrun
        have hP := ze_run_P m (fun j => zu (ft j)) d (i + 1) (zu (ft i)) (ze_row m r V P b x fr).1 (ze_row m r V P b x fr).2.1 (ze_row m r V P b x fr).2.2.1 (ze_row m r V P b x fr).2.2.2.1 (ze_row m r V P b x fr).2.2.2.2 (zk_ch (ze_row m r V P b x fr).2.2.2.2 ch r (zu (ft i)) (ze_row m r V P b x fr).2.2.2.1)
        rw [hrun] at hP
        exact Or.inr ⟨_, _, _, _, _, _, _, _, _, _, _, ⟨by have := h.1; omega, h.2.1, hns, hli, h.2.2⟩, x0, rfl, rfl⟩
  refine sg_PK_write0 C hm.2 hby0 hr hlk hl ht (fun _ _ _ _ _ => ⟨rfl, by decide⟩) (fun _ _ _ _ _ => zu_and _) (fun f2 n2 v2 w2 h => ?_) (fun f2 n2 v2 w2 h x0 => absurd h.1 (by omega))
  have h1 := h.1
  rw [show 0 + 2 ^ m * 2 ^ 0 = 2 ^ m by simp, Nat.zero_add] at h1
  exact loop (n8 - 1) 1 (zu (ft 0)) (2 ^ m) (m + 1) (m + 1) (2 ^ m + 2) true (fun _ _ => 0) (zk_clr m fc0) ns0 li0 f2 n2 v2 w2 (by omega) (ze_inv_new hm) (zt_clr m fc0 ns0 li0) (fun _ _ _ => rfl) (Or.inl (hix 0 (by omega))) (zk_clr_lt hfc0) hns0 hli0 h1 h.2.1 h.2.2 rfl
