/-! the class's small steps, as functions of the state -/
def vuF (vO row : Int → Int) (a : Int) : Int := if a = -1 then -1 else vO (row a)
def soF (Z : Int → Int) (a : Int) : Int := if a = -1 then 0 else Z a
def mx (a b : Int) : Int := if a < b then b else a
def orI (a b : Int) : Int := ((a.toNat ||| b.toNat : Nat) : Int)
def apn (σ : S0) (s t : Int) : S0 := if (0 ≤ s ∧ s < σ.1 0) ∧ (0 ≤ t ∧ t < σ.1 0) ∧ σ.1 1 < 80 then stI (stF (stF σ 9 (σ.1 1) s) 10 (σ.1 1) t) 1 (σ.1 1 + 1) else σ
/-- addValue -/
def adv (τ : S0) (k a b : Int) : S0 :=
  stI (stF (stL (stF (stL (stF (stF (stF τ 12 (τ.1 3) k) 13 (τ.1 3) a) 14 (τ.1 3) b) 17 (τ.1 3) (1 + soF (τ.2.2 17) a + soF (τ.2.2 17) b)) 15 (τ.1 3) (1 + mx (soF (τ.2.1 15) a) (soF (τ.2.1 15) b))) 18 (τ.1 3) (orI (soF (τ.2.2 18) a) (soF (τ.2.2 18) b))) 16 (τ.1 3) (-1)) 3 (τ.1 3 + 1)
/-- addVariable -/
def adw (τ : S0) : S0 := stI (stL (adv τ (-1) (-1) (-1)) 18 (τ.1 3) (2 ^ (τ.1 3).toNat)) 4 (τ.1 4 + 1)
theorem adv_1 (τ : S0) (k a b : Int) : (adv τ k a b).1 = uq τ.1 3 (τ.1 3 + 1) := rfl
theorem adv_12 (τ : S0) (k a b : Int) : (adv τ k a b).2.1 12 = ui (τ.2.1 12) (τ.1 3) k := rfl
theorem adv_13 (τ : S0) (k a b : Int) : (adv τ k a b).2.1 13 = ui (τ.2.1 13) (τ.1 3) a := rfl
theorem adv_14 (τ : S0) (k a b : Int) : (adv τ k a b).2.1 14 = ui (τ.2.1 14) (τ.1 3) b := rfl
theorem adv_15 (τ : S0) (k a b : Int) : (adv τ k a b).2.1 15 = ui (τ.2.1 15) (τ.1 3) (1 + mx (soF (τ.2.1 15) a) (soF (τ.2.1 15) b)) := rfl
theorem adv_16 (τ : S0) (k a b : Int) : (adv τ k a b).2.1 16 = ui (τ.2.1 16) (τ.1 3) (-1) := rfl
theorem adv_17 (τ : S0) (k a b : Int) : (adv τ k a b).2.2 17 = ui (τ.2.2 17) (τ.1 3) (1 + soF (τ.2.2 17) a + soF (τ.2.2 17) b) := rfl
theorem adv_18 (τ : S0) (k a b : Int) : (adv τ k a b).2.2 18 = ui (τ.2.2 18) (τ.1 3) (orI (soF (τ.2.2 18) a) (soF (τ.2.2 18) b)) := rfl
theorem adv_F (τ : S0) (k a b : Int) {j : Nat} (h : j < 12 ∨ 16 < j) : (adv τ k a b).2.1 j = τ.2.1 j := by
  have h1 : j ≠ 12 := by omega
  have h2 : j ≠ 13 := by omega
  have h3 : j ≠ 14 := by omega
  have h4 : j ≠ 15 := by omega
  have h5 : j ≠ 16 := by omega
  simp [adv, stI, stF, stL, stR, stM, h1, h2, h3, h4, h5]
theorem ui_at (g : Int → Int) (i v : Int) : ui g i v i = v := if_pos rfl
theorem ui_ne (g : Int → Int) {i j : Int} (v : Int) (h : j ≠ i) : ui g i v j = g j := if_neg h
theorem uq_at (I : Nat → Int) (q : Nat) (v : Int) : uq I q v q = v := if_pos rfl
theorem uq_ne (I : Nat → Int) {i q : Nat} (v : Int) (h : i ≠ q) : uq I q v i = I i := if_neg h
