/-! how many bits a long has, byte by byte -/
def bmk (m : Nat) : Nat → Nat
  | 0 => 0
  | k + 1 => 256 * bmk m k + m
theorem bmk5 : bmk 85 8 = 6148914691236517205 := by decide
theorem bmk3 : bmk 51 8 = 3689348814741910323 := by decide
theorem bmk0 : bmk 15 8 = 1085102592571150095 := by decide
theorem and_split {h l h' l' : Nat} (a : l < 256) (b : l' < 256) : (256 * h + l) &&& (256 * h' + l') = 256 * (h &&& h') + (l &&& l') := by
  have c : l &&& l' < 256 := Nat.lt_of_le_of_lt Nat.and_le_left a
  apply Nat.eq_of_testBit_eq
  intro i
  rw [Nat.testBit_and, Nat.testBit_two_pow_mul_add (i := 8) h a, Nat.testBit_two_pow_mul_add (i := 8) h' b, Nat.testBit_two_pow_mul_add (i := 8) (h &&& h') c]
  split
  · rw [Nat.testBit_and]
  · rw [Nat.testBit_and]
def pb1 (k x : Nat) : Nat := x - ((x / 2) &&& bmk 85 k)
def pb2 (k y : Nat) : Nat := (y &&& bmk 51 k) + ((y / 4) &&& bmk 51 k)
def pb3 (k y : Nat) : Nat := (y + y / 16) &&& bmk 15 k
theorem by1 : ∀ b, b < 256 → ∀ r, r < 2 → (128 * r + b / 2) &&& 85 = (b / 2) &&& 85 := by decide +kernel
theorem by2 : ∀ b, b < 256 → ∀ r, r < 4 → (64 * r + b / 4) &&& 51 = (b / 4) &&& 51 := by decide +kernel
theorem by2b : ∀ b, b < 256 → (b - ((b / 2) &&& 85) < 256) ∧ ((b - ((b / 2) &&& 85)) &&& 51) + (((b - ((b / 2) &&& 85)) / 4) &&& 51) ≤ 68 ∧ (((b - ((b / 2) &&& 85)) &&& 51) + (((b - ((b / 2) &&& 85)) / 4) &&& 51)) % 16 ≤ 4 := by decide +kernel
def pop8 (b : Nat) : Nat := ((((b - ((b / 2) &&& 85)) &&& 51) + (((b - ((b / 2) &&& 85)) / 4) &&& 51)) + (((b - ((b / 2) &&& 85)) &&& 51) + (((b - ((b / 2) &&& 85)) / 4) &&& 51)) / 16) % 16
theorem pop8_bits : ∀ b, b < 256 → sm (fun i => bz (b.testBit i.toNat = true)) 8 = (pop8 b : Int) := by decide +kernel
theorem pop8_le : ∀ b, b < 256 → pop8 b ≤ 8 := by decide +kernel
theorem pb1_split {k h b : Nat} (hb : b < 256) : pb1 (k + 1) (256 * h + b) = 256 * pb1 k h + (b - ((b / 2) &&& 85)) := by
  unfold pb1
  have e : (256 * h + b) / 2 = 256 * (h / 2) + (128 * (h % 2) + b / 2) := by omega
  have e2 : bmk 85 (k + 1) = 256 * bmk 85 k + 85 := rfl
  have h1 : (h / 2) &&& bmk 85 k ≤ h / 2 := Nat.and_le_left
  have h2 : (b / 2) &&& 85 ≤ b / 2 := Nat.and_le_left
  rw [e, e2, and_split (by omega) (by decide), by1 b hb (h % 2) (by omega)]
  omega
theorem pb2_split {k h c : Nat} (hc : c < 256) : pb2 (k + 1) (256 * h + c) = 256 * pb2 k h + ((c &&& 51) + ((c / 4) &&& 51)) := by
  unfold pb2
  have e : (256 * h + c) / 4 = 256 * (h / 4) + (64 * (h % 4) + c / 4) := by omega
  have e2 : bmk 51 (k + 1) = 256 * bmk 51 k + 51 := rfl
  rw [e, e2, and_split hc (by decide), and_split (by omega) (by decide), by2 c hc (h % 4) (by omega)]
  omega
theorem pb3_split {k h d : Nat} (hd : d ≤ 68) (hh : h % 16 ≤ 4) : pb3 (k + 1) (256 * h + d) = 256 * pb3 k h + (d + d / 16) % 16 := by
  unfold pb3
  have e : 256 * h + d + (256 * h + d) / 16 = 256 * (h + h / 16) + (16 * (h % 16) + d + d / 16) := by omega
  have e2 : bmk 15 (k + 1) = 256 * bmk 15 k + 15 := rfl
  have e3 : (16 * (h % 16) + d + d / 16) &&& 15 = (16 * (h % 16) + d + d / 16) % 16 := Nat.and_two_pow_sub_one_eq_mod _ 4
  rw [e, e2, and_split (by omega) (by decide), e3]
  omega
theorem pb12_low {k : Nat} : ∀ {x : Nat}, (k = 0 → x = 0) → pb2 k (pb1 k x) % 16 ≤ 4 := by
  intro x hx
  cases k with
  | zero =>
    rw [hx rfl]
    decide
  | succ k =>
    have e : x = 256 * (x / 256) + x % 256 := by omega
    have hb : x % 256 < 256 := by omega
    obtain ⟨q1, q2, q3⟩ := by2b (x % 256) hb
    rw [e, pb1_split hb, pb2_split q1]
    omega
def pbs : Nat → Nat → Nat
  | 0, _ => 0
  | k + 1, x => 256 * pbs k (x / 256) + pop8 (x % 256)
theorem pbs_eq : ∀ (k x : Nat), x < 256 ^ k → pb3 k (pb2 k (pb1 k x)) = pbs k x
  | 0, x, h => by
    have e : x = 0 := by simpa using h
    rw [e]
    decide
  | k + 1, x, h => by
    have e : x = 256 * (x / 256) + x % 256 := by omega
    have hb : x % 256 < 256 := by omega
    have hx : x / 256 < 256 ^ k := by
      rw [Nat.pow_succ] at h
      omega
    obtain ⟨q1, q2, q3⟩ := by2b (x % 256) hb
    have ih := pbs_eq k (x / 256) hx
    have low := pb12_low (k := k) (x := x / 256) (fun z => by subst z; simpa using hx)
    show _ = 256 * pbs k (x / 256) + pop8 (x % 256)
    rw [← ih]
    rw [show pb1 (k + 1) x = 256 * pb1 k (x / 256) + (x % 256 - ((x % 256 / 2) &&& 85)) by rw [← pb1_split hb, ← e], pb2_split q1, pb3_split q2 low]
    rfl
/-- the masks of eight bytes do for five -/
theorem pbs_more : ∀ (k x : Nat), x < 256 ^ k → pbs (k + 1) x = pbs k x
  | 0, x, h => by
    have e : x = 0 := by simpa using h
    rw [e]
    decide
  | k + 1, x, h => by
    have hx : x / 256 < 256 ^ k := by
      rw [Nat.pow_succ] at h
      omega
    show 256 * pbs (k + 1) (x / 256) + pop8 (x % 256) = 256 * pbs k (x / 256) + pop8 (x % 256)
    rw [pbs_more k _ hx]
/-- the number of bits of a set of numbers below 40 -/
def pop (x : Int) : Int := sm (fun i => bz (x.toNat.testBit i.toNat = true)) 40
theorem sm_add (f : Int → Int) (n : Nat) : ∀ m : Nat, sm f (n + m) = sm f n + sm (fun i => f ((n : Int) + i)) m
  | 0 => by simp [sm]
  | m + 1 => by
    show sm f (n + m) + f ((n + m : Nat) : Int) = sm f n + (sm (fun i => f ((n : Int) + i)) m + f ((n : Int) + (m : Int)))
    rw [sm_add f n m, Int.natCast_add]
    omega
theorem pop_byte (x j : Nat) : sm (fun i => bz (x.testBit ((j : Int) + i).toNat = true)) 8 = (pop8 (x / 2 ^ j % 256) : Int) := by
  rw [← pop8_bits _ (Nat.mod_lt _ (by decide))]
  refine sm_congr (fun i h0 h1 => bz_congr ?_)
  have e : ((j : Int) + i).toNat = i.toNat + j := by omega
  have e2 : (256 : Nat) = 2 ^ 8 := rfl
  rw [e, e2, Nat.testBit_mod_two_pow, Nat.testBit_div_two_pow]
  have e3 : i.toNat < 8 := by omega
  simp [e3]
theorem pop_bytes (x : Nat) : sm (fun i => bz (x.testBit i.toNat = true)) 40 = (pop8 (x % 256) : Int) + pop8 (x / 256 % 256) + pop8 (x / 65536 % 256) + pop8 (x / 16777216 % 256) + pop8 (x / 4294967296 % 256) := by
  have b0 := pop_byte x 0
  have b1 := pop_byte x 8
  have b2 := pop_byte x 16
  have b3 := pop_byte x 24
  have b4 := pop_byte x 32
  have h1 : sm (fun i : Int => bz (x.testBit i.toNat = true)) 40 = sm (fun i : Int => bz (x.testBit i.toNat = true)) 32 + (pop8 (x / 4294967296 % 256) : Int) := (sm_add (fun i : Int => bz (x.testBit i.toNat = true)) 32 8).trans (congrArg (fun z => sm (fun i : Int => bz (x.testBit i.toNat = true)) 32 + z) b4)
  have h2 : sm (fun i : Int => bz (x.testBit i.toNat = true)) 32 = sm (fun i : Int => bz (x.testBit i.toNat = true)) 24 + (pop8 (x / 16777216 % 256) : Int) := (sm_add (fun i : Int => bz (x.testBit i.toNat = true)) 24 8).trans (congrArg (fun z => sm (fun i : Int => bz (x.testBit i.toNat = true)) 24 + z) b3)
  have h3 : sm (fun i : Int => bz (x.testBit i.toNat = true)) 24 = sm (fun i : Int => bz (x.testBit i.toNat = true)) 16 + (pop8 (x / 65536 % 256) : Int) := (sm_add (fun i : Int => bz (x.testBit i.toNat = true)) 16 8).trans (congrArg (fun z => sm (fun i : Int => bz (x.testBit i.toNat = true)) 16 + z) b2)
  have h4 : sm (fun i : Int => bz (x.testBit i.toNat = true)) 16 = sm (fun i : Int => bz (x.testBit i.toNat = true)) 8 + (pop8 (x / 256 % 256) : Int) := (sm_add (fun i : Int => bz (x.testBit i.toNat = true)) 8 8).trans (congrArg (fun z => sm (fun i : Int => bz (x.testBit i.toNat = true)) 8 + z) b1)
  have e0 : x / 2 ^ 0 = x := by simp
  rw [e0] at b0
  have h5 : sm (fun i : Int => bz (x.testBit i.toNat = true)) 8 = (pop8 (x % 256) : Int) := by
    rw [← b0]
    refine sm_congr (fun i _ _ => bz_congr ?_)
    rw [show ((0 : Nat) : Int) + i = i by omega]
  omega
/-- the last steps: the bytes' sum -/
theorem pop_sum {x : Nat} (h : x < 2 ^ 40) : ((pbs 8 x + pbs 8 x / 256 + (pbs 8 x + pbs 8 x / 256) / 65536 + (pbs 8 x + pbs 8 x / 256 + (pbs 8 x + pbs 8 x / 256) / 65536) / 4294967296) % 128 : Nat) = pop8 (x % 256) + pop8 (x / 256 % 256) + pop8 (x / 65536 % 256) + pop8 (x / 16777216 % 256) + pop8 (x / 4294967296 % 256) := by
  have h5 : x < 256 ^ 5 := h
  have e : pbs 8 x = pbs 5 x := by
    rw [pbs_more 7 x (by omega), pbs_more 6 x (by omega), pbs_more 5 x h5]
  have e5 : pbs 5 x = 256 * (256 * (256 * (256 * (256 * 0 + pop8 (x / 256 / 256 / 256 / 256 % 256)) + pop8 (x / 256 / 256 / 256 % 256)) + pop8 (x / 256 / 256 % 256)) + pop8 (x / 256 % 256)) + pop8 (x % 256) := rfl
  rw [e, e5]
  have d1 : x / 256 / 256 = x / 65536 := by omega
  have d2 : x / 256 / 256 / 256 = x / 16777216 := by omega
  have d3 : x / 256 / 256 / 256 / 256 = x / 4294967296 := by omega
  rw [d3, d2, d1]
  have p0 := pop8_le (x % 256) (by omega)
  have p1 := pop8_le (x / 256 % 256) (by omega)
  have p2 := pop8_le (x / 65536 % 256) (by omega)
  have p3 := pop8_le (x / 16777216 % 256) (by omega)
  have p4 := pop8_le (x / 4294967296 % 256) (by omega)
  generalize pop8 (x % 256) = q0 at *
  generalize pop8 (x / 256 % 256) = q1 at *
  generalize pop8 (x / 65536 % 256) = q2 at *
  generalize pop8 (x / 16777216 % 256) = q3 at *
  generalize pop8 (x / 4294967296 % 256) = q4 at *
  have y1 : (256 * (256 * (256 * (256 * (256 * 0 + q4) + q3) + q2) + q1) + q0) / 256 = q1 + 256 * q2 + 65536 * q3 + 16777216 * q4 := by omega
  rw [y1]
  have y2 : (256 * (256 * (256 * (256 * (256 * 0 + q4) + q3) + q2) + q1) + q0 + (q1 + 256 * q2 + 65536 * q3 + 16777216 * q4)) / 65536 = q2 + q3 + 256 * (q3 + q4) + 65536 * q4 := by omega
  rw [y2]
  have y3 : (256 * (256 * (256 * (256 * (256 * 0 + q4) + q3) + q2) + q1) + q0 + (q1 + 256 * q2 + 65536 * q3 + 16777216 * q4) + (q2 + q3 + 256 * (q3 + q4) + 65536 * q4)) / 4294967296 = q4 := by omega
  rw [y3]
  omega
