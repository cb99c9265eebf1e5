abbrev zr (d k n : Nat) : Room := { frames := d, cells := k, slots := n, locals := 60 * d }
abbrev zex : List String := ["java/lang/RuntimeException", "java/lang/Exception"]
theorem zex_fit : ∀ n ∈ zex, Bundle.fit n = true := by decide +kernel
theorem zu_NU : ∀ w ∈ u_ws R_NU T_NU 4, w ∈ zB := by decide +kernel
theorem zd_NU : ∀ j, j < 4 → defaultValue (ty_NU j) = vp_V [.int (0 : Int32), .int (0 : Int32), .int (0 : Int32), .int (0 : Int32)] j := fun j hj => by
  rcases (show j = 0 ∨ j = 1 ∨ j = 2 ∨ j = 3 by omega) with rfl | rfl | rfl | rfl <;> rfl
theorem zu_BS : ∀ w ∈ u_ws R_BS T_BS 4, w ∈ zB := by decide +kernel
theorem zd_BS : ∀ j, j < 4 → defaultValue (ty_BS j) = vp_V [.null, .int (0 : Int32), .int (0 : Int32), .int (0 : Int32)] j := fun j hj => by
  rcases (show j = 0 ∨ j = 1 ∨ j = 2 ∨ j = 3 by omega) with rfl | rfl | rfl | rfl <;> rfl
theorem zu_UN : ∀ w ∈ u_ws R_UN T_UN 7, w ∈ zB := by decide +kernel
theorem zd_UN : ∀ j, j < 7 → defaultValue (ty_UN j) = vp_V [.null, .null, .null, .null, .int (0 : Int32), .int (0 : Int32), .int (0 : Int32)] j := fun j hj => by
  rcases (show j = 0 ∨ j = 1 ∨ j = 2 ∨ j = 3 ∨ j = 4 ∨ j = 5 ∨ j = 6 by omega) with rfl | rfl | rfl | rfl | rfl | rfl | rfl <;> rfl
theorem zu_PK : ∀ w ∈ u_ws R_PK T_PK 5, w ∈ zB := by decide +kernel
theorem zd_PK : ∀ j, j < 5 → defaultValue (ty_PK j) = vp_V [.null, .null, .null, .null, .null] j := fun j hj => by
  rcases (show j = 0 ∨ j = 1 ∨ j = 2 ∨ j = 3 ∨ j = 4 by omega) with rfl | rfl | rfl | rfl | rfl <;> rfl
theorem zu_LB : ∀ w ∈ u_ws R_LB T_LB 7, w ∈ zB := by decide +kernel
theorem zd_LB : ∀ j, j < 7 → defaultValue (ty_LB j) = vp_V [.null, .int (0 : Int32), .null, .null, .int (0 : Int32), .null, .null] j := fun j hj => by
  rcases (show j = 0 ∨ j = 1 ∨ j = 2 ∨ j = 3 ∨ j = 4 ∨ j = 5 ∨ j = 6 by omega) with rfl | rfl | rfl | rfl | rfl | rfl | rfl <;> rfl
theorem zu_MO : ∀ w ∈ u_ws R_MO T_MO 21, w ∈ zB := by decide +kernel
theorem zd_MO : ∀ j, j < 21 → defaultValue (ty_MO j) = vp_V [.int (0 : Int32), .null, .int (0 : Int32), .null, .int (0 : Int32), .null, .int (0 : Int32), .null, .int (0 : Int32), .int (0 : Int32), .null, .int (0 : Int32), .null, .null, .null, .int (0 : Int32), .int (0 : Int32), .int (0 : Int32), .int (0 : Int32), .int (0 : Int32), .null] j := fun j hj => by
  rcases (show j = 0 ∨ j = 1 ∨ j = 2 ∨ j = 3 ∨ j = 4 ∨ j = 5 ∨ j = 6 ∨ j = 7 ∨ j = 8 ∨ j = 9 ∨ j = 10 ∨ j = 11 ∨ j = 12 ∨ j = 13 ∨ j = 14 ∨ j = 15 ∨ j = 16 ∨ j = 17 ∨ j = 18 ∨ j = 19 ∨ j = 20 by omega) with rfl | rfl | rfl | rfl | rfl | rfl | rfl | rfl | rfl | rfl | rfl | rfl | rfl | rfl | rfl | rfl | rfl | rfl | rfl | rfl | rfl <;> rfl
set_option maxRecDepth 100000 in
theorem zh_LB_44 : ∀ w ∈ Bundle.ownAtoms R_LB 44 "java/lang/IndexOutOfBoundsException" zex, w ∈ zB ∨ w ∈ zx_four := by decide +kernel
set_option maxRecDepth 100000 in
theorem zh_LB_55 : ∀ w ∈ Bundle.ownAtoms R_LB 55 "java/lang/IllegalArgumentException" zex, w ∈ zB ∨ w ∈ zx_four := by decide +kernel
set_option maxRecDepth 100000 in
theorem zh_LB_80 : ∀ w ∈ Bundle.ownAtoms R_LB 80 "java/lang/UnsupportedOperationException" zex, w ∈ zB ∨ w ∈ zx_four := by decide +kernel
set_option maxRecDepth 100000 in
theorem zh_MO_46 : ∀ w ∈ Bundle.ownAtoms0 R_MO 46 "java/lang/UnsupportedOperationException" zex, w ∈ zB ∨ w ∈ zx_four := by decide +kernel
set_option maxRecDepth 100000 in
theorem zh_MO_62 : ∀ w ∈ Bundle.ownAtoms0 R_MO 62 "java/lang/IndexOutOfBoundsException" zex, w ∈ zB ∨ w ∈ zx_four := by decide +kernel
set_option maxRecDepth 100000 in
theorem zh_BS_32 : ∀ w ∈ Bundle.ownAtoms R_BS 32 "java/lang/IndexOutOfBoundsException" zex, w ∈ zB ∨ w ∈ zx_four := by decide +kernel
set_option maxRecDepth 100000 in
theorem zh_UN_67 : ∀ w ∈ Bundle.ownAtoms R_UN 67 "java/lang/UnsupportedOperationException" zex, w ∈ zB ∨ w ∈ zx_four := by decide +kernel
set_option maxRecDepth 100000 in
theorem zh_UN_87 : ∀ w ∈ Bundle.ownAtoms R_UN 87 "java/lang/IndexOutOfBoundsException" zex, w ∈ zB ∨ w ∈ zx_four := by decide +kernel
/-- a truth as a number -/
def zb (b : Bool) : Int32 := if b then 1 else 0
theorem zb_t : zb true = 1 := rfl
theorem zb_f : zb false = 0 := rfl
theorem zb_01 (b : Bool) : zb b = 0 ∨ zb b = 1 := by cases b <;> simp [zb]
theorem zb_0 {b : Bool} : zb b = 0 ↔ b = false := by cases b <;> simp [zb]
theorem zp_shl1 : ∀ k, k < 16 → (1 : Int32) <<< (nI k &&& 31) = nI (2 ^ k) := by decide +kernel
theorem zp_lit {k : Nat} {K : Int32} (h : K = nI k) : K = nI k := h
theorem zp_lt {a k : Nat} {K : Int32} (hK : K = nI k) (ha : a < 2 ^ 31) (hk : k < 2 ^ 31) : nI a < K ↔ a < k := by rw [hK]; exact nI_ltI ha hk
theorem zp_le {a k : Nat} {K : Int32} (hK : K = nI k) (ha : a < 2 ^ 31) (hk : k < 2 ^ 31) : nI a ≤ K ↔ a ≤ k := by rw [hK]; exact nI_leI ha hk
theorem zp_ge {a k : Nat} {K : Int32} (hK : K = nI k) (ha : a < 2 ^ 31) (hk : k < 2 ^ 31) : K ≤ nI a ↔ k ≤ a := by rw [hK]; exact nI_leI hk ha
theorem zp_gt {a k : Nat} {K : Int32} (hK : K = nI k) (ha : a < 2 ^ 31) (hk : k < 2 ^ 31) : K < nI a ↔ k < a := by rw [hK]; exact nI_ltI hk ha
theorem zp_eq {a k : Nat} {K : Int32} (hK : K = nI k) (ha : a < 2 ^ 31) (hk : k < 2 ^ 31) : nI a = K ↔ a = k := by rw [hK]; exact nI_eq ha hk
theorem zp_pow {k : Nat} (h : k < 16) : 2 ^ k < 2 ^ 31 := Nat.pow_lt_pow_right (by decide) (by omega)
theorem zp_pow8 {k : Nat} (h : k ≤ 8) : 2 ^ k ≤ 256 := Nat.pow_le_pow_right (by decide) h
theorem zp_pow12 {k : Nat} (h : k ≤ 12) : 2 ^ k ≤ 4096 := Nat.pow_le_pow_right (by decide) h
