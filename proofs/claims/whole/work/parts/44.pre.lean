/-! bounds for rounds -/
theorem sfr_le {n : Int} (hn : 0 ≤ n) (kd row : Int → Int) (τ : S0) : 0 ≤ sfr n kd row τ ∧ sfr n kd row τ ≤ n := by
  constructor
  · exact sm_nonneg (fun x _ _ => (bz_01 _).1)
  · have h1 := sm_le (f := fun x => bz (row x = x ∧ τ.2.1 11 x ≠ -1 ∧ kd x = -1)) (g := fun _ => 1) (n := n.toNat) (fun x _ _ => (bz_01 _).2)
    rw [sm_const] at h1
    unfold sfr
    omega
theorem arg_fa {n : Int} {kd fa sa row : Int → Int} (T : Tb n kd fa sa) (hr : RowOk n kd row) {x : Int} (hx : In n x) : fa x = -1 ∨ (0 ≤ fa x ∧ fa x < 40 ∧ 0 ≤ row (fa x) ∧ row (fa x) < 40) := by
  by_cases e : fa x = -1
  · exact Or.inl e
  · have h1 := T.fa_in hx e
    have h2 := (hr _ h1).1
    have h3 := T.2.1
    exact Or.inr ⟨h1.1, by omega, h2.1, by omega⟩
theorem arg_sa {n : Int} {kd fa sa row : Int → Int} (T : Tb n kd fa sa) (hr : RowOk n kd row) {x : Int} (hx : In n x) : sa x = -1 ∨ (0 ≤ sa x ∧ sa x < 40 ∧ 0 ≤ row (sa x) ∧ row (sa x) < 40) := by
  by_cases e : sa x = -1
  · exact Or.inl e
  · have h1 := T.sa_in hx e
    have h2 := (hr _ h1).1
    have h3 := T.2.1
    exact Or.inr ⟨h1.1, by omega, h2.1, by omega⟩
