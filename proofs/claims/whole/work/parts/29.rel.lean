/-! the reader's rows as stretches and as chains -/
theorem zu_zby {k : Nat} (h : k < 256) : zu (zby k) = k := by
  have : ∀ k, k < 256 → zu (zby k) = k := by decide +kernel
  exact this k h
theorem zby_zu {y : Int32} (h : vp_nar .byte y = y) : zby (zu y) = y := by
  rw [vp_nar_byte] at h
  have e : zby (zu y) = y.toInt8.toInt32 := zi8 (by rw [pk_tn (Nat.lt_trans (zu_lt y) (by decide))]; unfold zu; exact Nat.mod_mod _ _)
  rw [e]; exact h
theorem zcp_lo {f : Nat → Int32} {made st : Nat} : ∀ (i j : Nat), j < made → zcp f made st i j = f j
  | 0, _, _ => rfl
  | i + 1, j, h => by rw [zcp, pk_un (by omega)]; exact zcp_lo i j h
theorem zcp_hi {f : Nat → Int32} {made st : Nat} : ∀ (i k : Nat), k < i → st + k < made → zcp f made st i (made + k) = f (st + k)
  | 0, k, h, _ => absurd h (Nat.not_lt_zero _)
  | i + 1, k, h, h2 => by
    rw [zcp]
    by_cases q : k = i
    · subst q; rw [pk_us]; exact zcp_lo k (st + k) h2
    · rw [pk_un (by omega)]; exact zcp_hi i k (by omega) h2
theorem zcp_self {f : Nat → Int32} {made st ll : Nat} (h : st + ll = made) (h1 : 1 ≤ ll) : zcp f made st (ll + 1) (made + ll) = f st := by
  rw [zcp, pk_us, h]
  exact zcp_hi (made := made) (st := st) ll 0 h1 (by omega)
/-- the model's rows against the class's stretches -/
def zrel (m x : Nat) (fr : Bool) (ls ll : Nat) (rs rl : Nat → Nat) (f g : Nat → Int32) (made : Nat) (bf li de : Nat → Int32) (la : Nat) : Prop :=
  (∀ j, j < made → g j = f j) ∧ (∀ j, vp_nar .byte (g j) = g j) ∧ (∀ c, c < 2 ^ m → bf c = -1 ∧ li c = nI c ∧ de c = nI 1) ∧
  (∀ c, 2 ^ m + 2 ≤ c → c < x → 2 ≤ rl c ∧ rs c + rl c ≤ made ∧ de c = nI (rl c) ∧ zch bf li x (rl c) c (fun k => zu (g (rs c + k)))) ∧
  (fr = false → 1 ≤ ll ∧ ls + ll = made ∧ de la = nI ll ∧ zval m x la ∧ zch bf li x ll la (fun k => zu (g (ls + k))))
/-- the indices of code c -/
def zsg (m x : Nat) (ls ll : Nat) (rs : Nat → Nat) (g : Nat → Int32) (c : Nat) : Nat → Nat := fun k => if c < 2 ^ m then c else if c = x then (if k < ll then zu (g (ls + k)) else zu (g ls)) else zu (g (rs c + k))
theorem zsg_lt {m x ls ll : Nat} {rs : Nat → Nat} {g : Nat → Int32} {c : Nat} (hm : m ≤ 8) (k : Nat) : zsg m x ls ll rs g c k < 256 := by
  have hp := zp_pow8 hm
  unfold zsg
  by_cases h1 : c < 2 ^ m
  · rw [if_pos h1]; omega
  · rw [if_neg h1]
    by_cases h2 : c = x
    · rw [if_pos h2]
      by_cases h3 : k < ll
      · rw [if_pos h3]; exact zu_lt _
      · rw [if_neg h3]; exact zu_lt _
    · rw [if_neg h2]; exact zu_lt _
/-- an old code's chain -/
theorem zrel_old {m x : Nat} {fr : Bool} {ls ll : Nat} {rs rl : Nat → Nat} {f g : Nat → Int32} {made : Nat} {bf li de : Nat → Int32} {la c : Nat} (h : zrel m x fr ls ll rs rl f g made bf li de la) (hx : 2 ^ m + 2 ≤ x) (hc : zval m x c) : de c = nI (zd_len m c rl) ∧ zch bf li x (zd_len m c rl) c (zsg m x ls ll rs g c) := by
  obtain ⟨h1, h2, h3, h4, h5⟩ := h
  unfold zd_len
  by_cases q : c < 2 ^ m
  · rw [if_pos q]
    obtain ⟨g1, g2, g3⟩ := h3 c q
    have e : zsg m x ls ll rs g c 0 = c := if_pos q
    exact ⟨g3, by omega, g1, by rw [e]; exact g2, e.symm⟩
  · rw [if_neg q]
    have hc2 : 2 ^ m + 2 ≤ c ∧ c < x := hc.resolve_left q
    obtain ⟨g1, g2, g3, g4⟩ := h4 c hc2.1 hc2.2
    refine ⟨g3, zch_congr (fun k hk => ?_) g4⟩
    unfold zsg
    rw [if_neg q, if_neg (by omega)]
/-- the state behind a code -/
theorem zrel_next {m x x' : Nat} {fr : Bool} {ls ll : Nat} {rs rl rs' rl' : Nat → Nat} {f g : Nat → Int32} {made len : Nat} {bf li de bf' li' de' : Nat → Int32} {la c : Nat} {σ : Nat → Nat} (h : zrel m x fr ls ll rs rl f g made bf li de la) (hσ : ∀ k, σ k < 256)
    (hpre : ∀ k, k < len → zd_out m c f made rs' rl' (made + k) = zby (σ k)) (hlo : ∀ j, j < made → zd_out m c f made rs' rl' j = f j) (hlen : 1 ≤ len)
    (hsing : ∀ q, q < 2 ^ m → bf' q = -1 ∧ li' q = nI q ∧ de' q = nI 1)
    (hrows : ∀ q, 2 ^ m + 2 ≤ q → q < x' → 2 ≤ rl' q ∧ rs' q + rl' q ≤ made + len ∧ de' q = nI (rl' q) ∧ zch bf' li' x' (rl' q) q (fun k => zu (zgv g made σ 0 len (rs' q + k))))
    (hde : de' c = nI len) (hval : zval m x' c) (hch : zch bf' li' x' len c σ) :
    zrel m x' false made len rs' rl' (zd_out m c f made rs' rl') (zgv g made σ 0 len) (made + len) bf' li' de' c := by
  obtain ⟨h1, h2, -, -, -⟩ := h
  have hin : ∀ k, k < len → zgv g made σ 0 len (made + k) = zby (σ k) := fun k hk => by
    unfold zgv
    rw [if_pos (by omega), show made + k - made = k by omega]
  refine ⟨fun j hj => ?_, fun j => ?_, hsing, hrows, fun _ => ⟨hlen, rfl, hde, hval, zch_congr (fun k hk => ?_) hch⟩⟩
  · by_cases q : j < made
    · rw [hlo j q, ← h1 j q]
      exact if_neg (by omega)
    · have := hin (j - made) (by omega)
      rw [show made + (j - made) = j by omega] at this
      rw [this]
      have h9 := hpre (j - made) (by omega)
      rw [show made + (j - made) = j by omega] at h9
      exact h9.symm
  · unfold zgv
    by_cases q : made + 0 ≤ j ∧ j < made + len
    · rw [if_pos q]; exact zby_nar _
    · rw [if_neg q]; exact h2 j
  · rw [hin k hk, zu_zby (hσ k)]
theorem zgv_lo {g : Nat → Int32} {made : Nat} {σ : Nat → Nat} {len j : Nat} (h : j < made) : zgv g made σ 0 len j = g j := if_neg (by omega)
/-- the bytes of an old code, or of a single one -/
theorem zout_old {m x : Nat} {fr : Bool} {ls ll : Nat} {rs rl : Nat → Nat} {f g : Nat → Int32} {made : Nat} {bf li de : Nat → Int32} {la c : Nat} (h : zrel m x fr ls ll rs rl f g made bf li de la) (hc : zval m x c) {rs' rl' : Nat → Nat} (hrs : rs' c = rs c) (hrl : rl' c = rl c) : (∀ k, k < zd_len m c rl → zd_out m c f made rs' rl' (made + k) = zby (zsg m x ls ll rs g c k)) ∧ ∀ j, j < made → zd_out m c f made rs' rl' j = f j := by
  obtain ⟨h1, h2, -, h4, -⟩ := h
  unfold zd_len zd_out zsg
  by_cases q : c < 2 ^ m
  · rw [if_pos q]
    simp only [if_pos q]
    refine ⟨fun k hk => ?_, fun j hj => pk_un (by omega)⟩
    rw [show k = 0 by omega, Nat.add_zero, pk_us]
  · rw [if_neg q]
    simp only [if_neg q]
    have hc2 : 2 ^ m + 2 ≤ c ∧ c < x := hc.resolve_left q
    obtain ⟨g1, g2, -, -⟩ := h4 c hc2.1 hc2.2
    rw [hrs, hrl]
    refine ⟨fun k hk => ?_, fun j hj => zcp_lo _ j hj⟩
    rw [if_neg (show ¬ c = x by omega), zcp_hi _ k hk (by omega), ← h1 _ (by omega), zby_zu (h2 _)]
/-- no row is made: behind a beginning, or the numbers are used up -/
theorem zrel_same {m x : Nat} {fr : Bool} {ls ll : Nat} {rs rl : Nat → Nat} {f g : Nat → Int32} {made : Nat} {bf li de : Nat → Int32} {la c : Nat} (hm : 2 ≤ m ∧ m ≤ 8) (h : zrel m x fr ls ll rs rl f g made bf li de la) (hx : 2 ^ m + 2 ≤ x) (hc : zval m x c) : zrel m x false made (zd_len m c rl) rs rl (zd_out m c f made rs rl) (zgv g made (zsg m x ls ll rs g c) 0 (zd_len m c rl)) (made + zd_len m c rl) bf li de c := by
  obtain ⟨hd, hz⟩ := zrel_old h hx hc
  obtain ⟨o1, o2⟩ := zout_old h hc (rs' := rs) (rl' := rl) rfl rfl
  refine zrel_next h (fun k => zsg_lt hm.2 k) o1 o2 (zch_pos hz) h.2.2.1 (fun q q1 q2 => ?_) hd hc hz
  obtain ⟨g1, g2, g3, g4⟩ := h.2.2.2.1 q q1 q2
  exact ⟨g1, by omega, g3, zch_congr (fun k hk => by rw [zgv_lo (by omega)]) g4⟩
/-- a row is made -/
theorem zrel_new {m x : Nat} {ls ll : Nat} {rs rl : Nat → Nat} {f g : Nat → Int32} {made : Nat} {bf li de : Nat → Int32} {la c : Nat} (hm : 2 ≤ m ∧ m ≤ 8) (h : zrel m x false ls ll rs rl f g made bf li de la) (hx : 2 ^ m + 2 ≤ x) (hc : c = x ∨ zval m x c) :
    (upd de x (nI (ll + 1))) c = nI (zd_len m c (updN rl x (ll + 1))) ∧ zch (upd bf x (nI la)) (upd li x (nI (zsg m x ls ll rs g c 0))) (x + 1) (zd_len m c (updN rl x (ll + 1))) c (zsg m x ls ll rs g c) ∧
    zrel m (x + 1) false made (zd_len m c (updN rl x (ll + 1))) (updN rs x ls) (updN rl x (ll + 1)) (zd_out m c f made (updN rs x ls) (updN rl x (ll + 1))) (zgv g made (zsg m x ls ll rs g c) 0 (zd_len m c (updN rl x (ll + 1)))) (made + zd_len m c (updN rl x (ll + 1))) (upd bf x (nI la)) (upd li x (nI (zsg m x ls ll rs g c 0))) (upd de x (nI (ll + 1))) c := by
  obtain ⟨e1, e2, e3, e4, e5⟩ := h.2.2.2.2 rfl
  have hσ := fun k => zsg_lt (x := x) (ls := ls) (ll := ll) (rs := rs) (g := g) (c := c) hm.2 k
  -- the new row's chain, its last index that of c's first
  have hnew : ∀ τ : Nat → Nat, (∀ k, k < ll → τ k = zu (g (ls + k))) → τ ll = zsg m x ls ll rs g c 0 → zch (upd bf x (nI la)) (upd li x (nI (zsg m x ls ll rs g c 0))) (x + 1) (ll + 1) x τ := fun τ t1 t2 => by
    rw [← t2]; exact zch_new e5 t1
  have hsing : ∀ q, q < 2 ^ m → upd bf x (nI la) q = -1 ∧ upd li x (nI (zsg m x ls ll rs g c 0)) q = nI q ∧ upd de x (nI (ll + 1)) q = nI 1 := fun q hq => by
    rw [pk_un (by omega), pk_un (by omega), pk_un (by omega)]
    exact h.2.2.1 q hq
  have hself : zsg m x ls ll rs g x 0 = zu (g ls) := by
    unfold zsg
    rw [if_neg (by omega), if_pos rfl, if_pos (by omega)]
    rfl
  -- facts of c
  have main : (upd de x (nI (ll + 1))) c = nI (zd_len m c (updN rl x (ll + 1))) ∧ zch (upd bf x (nI la)) (upd li x (nI (zsg m x ls ll rs g c 0))) (x + 1) (zd_len m c (updN rl x (ll + 1))) c (zsg m x ls ll rs g c) ∧ (∀ k, k < zd_len m c (updN rl x (ll + 1)) → zd_out m c f made (updN rs x ls) (updN rl x (ll + 1)) (made + k) = zby (zsg m x ls ll rs g c k)) ∧ (∀ j, j < made → zd_out m c f made (updN rs x ls) (updN rl x (ll + 1)) j = f j) ∧ zval m (x + 1) c := by
    by_cases q : c = x
    · subst q
      have eL : zd_len m c (updN rl c (ll + 1)) = ll + 1 := by
        unfold zd_len updN
        rw [if_neg (by omega), if_pos rfl]
      have eO : zd_out m c f made (updN rs c ls) (updN rl c (ll + 1)) = zcp f made ls (ll + 1) := by
        unfold zd_out updN
        rw [if_neg (by omega), if_pos rfl, if_pos rfl]
      have eS : ∀ k, zsg m c ls ll rs g c k = if k < ll then zu (g (ls + k)) else zu (g ls) := fun k => by
        unfold zsg
        rw [if_neg (by omega), if_pos rfl]
      rw [eL, eO]
      refine ⟨pk_us, hnew _ (fun k hk => by rw [eS, if_pos hk]) (by rw [eS, if_neg (by omega), hself]), fun k hk => ?_, fun j hj => zcp_lo _ j hj, Or.inr ⟨hx, by omega⟩⟩
      rw [eS]
      by_cases y : k < ll
      · rw [if_pos y, zcp_hi _ k hk (by omega), ← h.1 _ (by omega), zby_zu (h.2.1 _)]
      · have : k = ll := by omega
        subst this
        rw [if_neg y, zcp_self e2 e1, ← h.1 _ (by omega), zby_zu (h.2.1 _)]
    · have hv := hc.resolve_left q
      obtain ⟨hd, hz⟩ := zrel_old h hx hv
      have eL : zd_len m c (updN rl x (ll + 1)) = zd_len m c rl := by
        unfold zd_len updN
        rw [if_neg q]
      obtain ⟨o1, o2⟩ := zout_old h hv (rs' := updN rs x ls) (rl' := updN rl x (ll + 1)) (if_neg q) (if_neg q)
      rw [eL]
      exact ⟨by rw [pk_un q]; exact hd, zch_upd hz, o1, o2, zval_up hv⟩
  obtain ⟨m1, m2, m3, m4, m5⟩ := main
  have hl1 := zch_pos m2
  refine ⟨m1, m2, zrel_next h hσ m3 m4 hl1 hsing (fun q q1 q2 => ?_) m1 m5 m2⟩
  by_cases y : q = x
  · subst y
    have a1 : updN rl q (ll + 1) q = ll + 1 := if_pos rfl
    have a2 : updN rs q ls q = ls := if_pos rfl
    rw [a1, a2]
    refine ⟨by omega, by omega, pk_us, hnew _ (fun k hk => by rw [zgv_lo (by omega)]) ?_⟩
    show zu (zgv g made _ 0 _ (ls + ll)) = _
    rw [e2]
    have : zgv g made (zsg m q ls ll rs g c) 0 (zd_len m c (updN rl q (ll + 1))) made = zby (zsg m q ls ll rs g c 0) := by
      unfold zgv
      rw [if_pos (by omega), Nat.sub_self]
    rw [this, zu_zby (hσ 0)]
  · have a1 : updN rl x (ll + 1) q = rl q := if_neg y
    have a2 : updN rs x ls q = rs q := if_neg y
    rw [a1, a2]
    obtain ⟨g1, g2, g3, g4⟩ := h.2.2.2.1 q q1 (by omega)
    exact ⟨g1, by omega, by rw [pk_un y]; exact g3, zch_upd (zch_congr (fun k hk => by rw [zgv_lo (by omega)]) g4)⟩
