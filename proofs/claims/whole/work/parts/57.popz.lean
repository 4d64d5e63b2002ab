/-! the machine's steps of Long.bitCount -/
theorem ush_zL {a k : Nat} {z : Int} (hz : z = (k : Int)) (ha : a < 2 ^ 63) (hk : k < 64) : ((zL (a : Int)).toUInt64 >>> ((zI z).toInt64.toUInt64 &&& Int64.toUInt64 63)).toInt64 = zL ((a / 2 ^ k : Nat) : Int) := by
  subst hz
  rw [zL_lN, zI_nI, zL_lN]
  exact wb_shr (by omega) hk
theorem and_zL {a b : Nat} {z : Int} (hz : z = (b : Int)) (ha : a < 2 ^ 64) (hb : b < 2 ^ 64) : zL (a : Int) &&& zL z = zL ((a &&& b : Nat) : Int) := by
  subst hz
  rw [zL_lN, zL_lN, zL_lN]
  exact wb_and ha hb
theorem l2i_zL (a : Nat) : (zL (a : Int)).toInt32 = zI (a : Int) := by
  rw [zL_lN, zI_nI]
  exact lN_i a
theorem and127 (a : Nat) : zI (a : Int) &&& zI 127 = zI ((a % 128 : Nat) : Int) := by
  have h : (zI 127).toBitVec.toNat = 2 ^ 7 - 1 := by decide
  rw [pk_and (zI (a : Int)) 7 h, zI_nI, zI_nI]
  congr 1
  show (BitVec.ofNat 32 a).toNat % 2 ^ 7 = a % 128
  rw [BitVec.toNat_ofNat]
  omega
theorem pb1_int (m : Nat) : (m : Int) - ((m / 2 &&& bmk 85 8 : Nat) : Int) = ((pb1 8 m : Nat) : Int) := by
  have h : m / 2 &&& bmk 85 8 ≤ m / 2 := Nat.and_le_left
  unfold pb1
  omega
theorem pb2_int (y : Nat) : ((y &&& bmk 51 8 : Nat) : Int) + ((y / 4 &&& bmk 51 8 : Nat) : Int) = ((pb2 8 y : Nat) : Int) := (Int.natCast_add _ _).symm
theorem pb_bounds (m : Nat) : pb1 8 m ≤ m ∧ pb2 8 (pb1 8 m) ≤ 2 * m ∧ pb3 8 (pb2 8 (pb1 8 m)) ≤ 4 * m := by
  have h1 : pb1 8 m ≤ m := Nat.sub_le _ _
  have h2 : pb2 8 (pb1 8 m) ≤ 2 * m := by
    have q1 : pb1 8 m &&& bmk 51 8 ≤ pb1 8 m := Nat.and_le_left
    have q2 : pb1 8 m / 4 &&& bmk 51 8 ≤ pb1 8 m / 4 := Nat.and_le_left
    unfold pb2
    omega
  have h3 : pb3 8 (pb2 8 (pb1 8 m)) ≤ 4 * m := by
    have q1 : (pb2 8 (pb1 8 m) + pb2 8 (pb1 8 m) / 16) &&& bmk 15 8 ≤ pb2 8 (pb1 8 m) + pb2 8 (pb1 8 m) / 16 := Nat.and_le_left
    unfold pb3
    omega
  exact ⟨h1, h2, h3⟩
theorem pop_fin {m y3 : Nat} (h : m < 2 ^ 40) (e : pb3 8 (pb2 8 (pb1 8 m)) = y3) : ((((y3 + y3 / 256) + (y3 + y3 / 256) / 65536 + ((y3 + y3 / 256) + (y3 + y3 / 256) / 65536) / 4294967296) % 128 : Nat) : Int) = pop (m : Int) := by
  have e2 : y3 = pbs 8 m := by
    rw [← e]
    exact pbs_eq 8 m (Nat.lt_trans h (by decide))
  subst e2
  rw [pop_sum h]
  have q := pop_bytes m
  unfold pop
  rw [Int.toNat_natCast]
  omega
