/-! whole numbers as ints and longs of the machine -/
def zI (z : Int) : Int32 := Int32.ofInt z
def zL (z : Int) : Int64 := Int64.ofInt z
abbrev Rg (z : Int) : Prop := -2147483648 ≤ z ∧ z < 2147483648
abbrev RgL (z : Int) : Prop := -9223372036854775808 ≤ z ∧ z < 9223372036854775808
theorem zI_toInt {z : Int} (h : Rg z) : (zI z).toInt = z := Int32.toInt_ofInt_of_le (by have := h.1; omega) (by have := h.2; omega)
theorem zL_toInt {z : Int} (h : RgL z) : (zL z).toInt = z := Int64.toInt_ofInt_of_le (by have := h.1; omega) (by have := h.2; omega)
theorem zI_add (a b : Int) : zI (a + b) = zI a + zI b := Int32.ofInt_add a b
theorem zI_sub (a b : Int) : zI (a - b) = zI a - zI b := Int32.ofInt_sub a b
theorem zI_mul (a b : Int) : zI (a * b) = zI a * zI b := Int32.ofInt_mul a b
theorem zL_add (a b : Int) : zL (a + b) = zL a + zL b := Int64.ofInt_add a b
theorem zL_sub (a b : Int) : zL (a - b) = zL a - zL b := Int64.ofInt_sub a b
theorem zI_eq {a b : Int} (ha : Rg a) (hb : Rg b) : zI a = zI b ↔ a = b := by
  rw [← Int32.toInt_inj, zI_toInt ha, zI_toInt hb]
theorem zI_lt {a b : Int} (ha : Rg a) (hb : Rg b) : zI a < zI b ↔ a < b := by
  rw [Int32.lt_iff_toInt_lt, zI_toInt ha, zI_toInt hb]
theorem zI_le {a b : Int} (ha : Rg a) (hb : Rg b) : zI a ≤ zI b ↔ a ≤ b := by
  rw [Int32.le_iff_toInt_le, zI_toInt ha, zI_toInt hb]
theorem zL_eq {a b : Int} (ha : RgL a) (hb : RgL b) : zL a = zL b ↔ a = b := by
  rw [← Int64.toInt_inj, zL_toInt ha, zL_toInt hb]
theorem zL_lt {a b : Int} (ha : RgL a) (hb : RgL b) : zL a < zL b ↔ a < b := by
  rw [Int64.lt_iff_toInt_lt, zL_toInt ha, zL_toInt hb]
theorem zL_le {a b : Int} (ha : RgL a) (hb : RgL b) : zL a ≤ zL b ↔ a ≤ b := by
  rw [Int64.le_iff_toInt_le, zL_toInt ha, zL_toInt hb]
theorem zI_0 : zI 0 = 0 := by decide
theorem zL_0 : zL 0 = 0 := by decide
theorem Rg_0 : Rg 0 := ⟨by decide, by decide⟩
theorem RgL_0 : RgL 0 := ⟨by decide, by decide⟩
theorem zI_of (x : Int32) : ∃ z : Int, Rg z ∧ x = zI z := ⟨x.toInt, ⟨by have := Int32.le_toInt x; omega, by have := Int32.toInt_lt x; omega⟩, (Int32.ofInt_toInt x).symm⟩
theorem zL_of (x : Int64) : ∃ z : Int, RgL z ∧ x = zL z := ⟨x.toInt, ⟨by have := Int64.le_toInt x; omega, by have := Int64.toInt_lt x; omega⟩, (Int64.ofInt_toInt x).symm⟩
theorem zI_cl {z : Int} (h : Rg z) : (zI z).toNatClampNeg = z.toNat := by
  show (zI z).toInt.toNat = z.toNat
  rw [zI_toInt h]
theorem zI_in {z : Int} {n : Nat} (h0 : 0 ≤ z) (h1 : z < n) (hn : n < 2147483648) : vp_in (zI z) n := by
  rw [vp_in_iff, zI_toInt ⟨by omega, by omega⟩]
  exact ⟨h0, h1⟩
theorem zI_l {z : Int} (h : Rg z) : (zI z).toInt64 = zL z := by
  have h1 := h.1
  have h2 := h.2
  rw [← Int64.toInt_inj, zL_toInt ⟨by omega, by omega⟩, Int32.toInt_toInt64, zI_toInt h]
theorem zI_nI (n : Nat) : zI (n : Int) = nI n := Int32.ofInt_eq_ofNat
theorem zL_lN (n : Nat) : zL (n : Int) = lN n := Int64.ofInt_eq_ofNat
/-- lcmp -/
def zc (a b : Int) : Int := if b < a then 1 else if a = b then 0 else -1
theorem zc_eq {a b : Int} (ha : RgL a) (hb : RgL b) : lg_cmp (zL a) (zL b) = zI (zc a b) := by
  unfold lg_cmp zc
  by_cases h : b < a
  · rw [if_pos ((zL_lt hb ha).mpr h), if_pos h]; decide
  · rw [if_neg (fun q => h ((zL_lt hb ha).mp q)), if_neg h]
    by_cases h2 : a = b
    · rw [if_pos (by rw [h2]), if_pos h2]; decide
    · rw [if_neg (fun q => h2 ((zL_eq ha hb).mp q)), if_neg h2]; decide
theorem zc_rg (a b : Int) : Rg (zc a b) := by
  unfold zc Rg
  split
  · omega
  · split <;> omega
theorem zc_le0 {a b : Int} (h : zc a b ≤ 0) : a ≤ b := by
  unfold zc at h
  split at h
  · omega
  · omega
theorem zc_gt0 {a b : Int} (h : 0 < zc a b) : b < a := by
  unfold zc at h
  split at h
  · assumption
  · split at h <;> omega
theorem zc_ge0 {a b : Int} (h : 0 ≤ zc a b) : b ≤ a := by
  unfold zc at h
  split at h
  · omega
  · split at h <;> omega
theorem zc_lt0 {a b : Int} (h : zc a b < 0) : a < b := by
  unfold zc at h
  split at h
  · omega
  · split at h <;> omega
theorem zc_eq0 {a b : Int} (h : zc a b = 0) : a = b := by
  unfold zc at h
  split at h
  · omega
  · split at h <;> omega
theorem zc_ne0 {a b : Int} (h : zc a b ≠ 0) : a ≠ b := by
  intro e
  apply h
  unfold zc
  rw [if_neg (by omega), if_pos e]
