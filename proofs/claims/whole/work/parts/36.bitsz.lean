/-! sets of numbers below 40 as longs -/
theorem zL_1 : zL 1 = lN 1 := zL_lN 1
theorem zL_nat {a : Int} (h : 0 ≤ a) : zL a = lN a.toNat := by
  rw [← zL_lN, Int.toNat_of_nonneg h]
theorem zI_nat {a : Int} (h : 0 ≤ a) : zI a = nI a.toNat := by
  rw [← zI_nI, Int.toNat_of_nonneg h]
theorem p2_40N {a : Int} (h0 : 0 ≤ a) (h : a < p2 40) : a.toNat < 2 ^ 40 := by
  unfold p2 at h
  omega
theorem orI_zL {a b : Int} (ha : 0 ≤ a) (ha2 : a < p2 40) (hb : 0 ≤ b) (hb2 : b < p2 40) : zL a ||| zL b = zL (orI a b) := by
  have h1 := p2_40N ha ha2
  have h2 := p2_40N hb hb2
  rw [zL_nat ha, zL_nat hb, wb_or (by omega) (by omega)]
  unfold orI
  rw [zL_lN]
theorem shl1_zL {v : Int} (h0 : 0 ≤ v) (h1 : v < 63) : zL 1 <<< ((zI v).toInt64 &&& 63) = zL (2 ^ v.toNat) := by
  rw [zL_1, zI_nat h0, wb_shl 1 (by omega), Nat.one_mul, p2_pow]
  unfold p2
  rw [zL_lN]
theorem shr_zL {a b : Int} (ha : 0 ≤ a) (ha2 : a < p2 40) (h0 : 0 ≤ b) (h1 : b < 63) : zL a >>> ((zI b).toInt64 &&& 63) = zL ((a.toNat / 2 ^ b.toNat : Nat) : Int) := by
  have h2 := p2_40N ha ha2
  have hk : b.toNat < 64 := by omega
  rw [zL_nat ha, zI_nat h0, zL_lN]
  refine pf_shr ?_ (by omega)
  rw [wb_c _ hk, wb_tb, wb_sm _ hk, BitVec.toNat_ofNat, Nat.mod_eq_of_lt (by omega)]
theorem and1_zL {m : Nat} (h : m < 2 ^ 40) : zL (m : Int) &&& zL 1 = zL ((m % 2 : Nat) : Int) := by
  rw [zL_lN, zL_lN, zL_1]
  exact wb_a1 (by omega)
/-- b is in the set m -/
abbrev tb (m b : Int) : Prop := m.toNat.testBit b.toNat = true
theorem tb_iff {m b : Int} : ((m.toNat / 2 ^ b.toNat % 2 : Nat) : Int) = 1 ↔ tb m b := by
  show _ ↔ m.toNat.testBit b.toNat = true
  rw [Nat.testBit_eq_decide_div_mod_eq, decide_eq_true_eq]
  omega
