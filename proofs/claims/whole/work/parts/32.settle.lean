/-! how the values of the classes are found: each kept once, numbered after its arguments -/
def p2 (k : Nat) : Int := ((2 ^ k : Nat) : Int)
theorem p2_succ (k : Nat) : p2 (k + 1) = p2 k + p2 k := by
  unfold p2
  rw [Nat.pow_succ]
  omega
theorem p2_le {j k : Nat} (h : j ≤ k) : p2 j ≤ p2 k := by
  unfold p2
  exact Int.ofNat_le.mpr (Nat.pow_le_pow_right (by decide) h)
theorem p2_pos (k : Nat) : 1 ≤ p2 k := by
  have h := p2_le (Nat.zero_le k)
  have h0 : p2 0 = 1 := rfl
  omega
theorem orI_lt {a b : Int} {k : Nat} (ha : a < p2 k) (hb : b < p2 k) : 0 ≤ orI a b ∧ orI a b < p2 k := by
  unfold orI p2
  unfold p2 at ha hb
  refine ⟨Int.natCast_nonneg _, Int.ofNat_lt.mpr (Nat.or_lt_two_pow ?_ ?_)⟩
  · have := Nat.two_pow_pos k
    omega
  · have := Nat.two_pow_pos k
    omega
theorem mx_le {a b c : Int} (h1 : a ≤ c) (h2 : b ≤ c) : mx a b ≤ c := by
  unfold mx
  split <;> assumption
theorem le_mx (a b : Int) : a ≤ mx a b ∧ b ≤ mx a b := by
  unfold mx
  split <;> omega
/-- one value of the table -/
def VV (τ : S0) (v : Int) : Prop :=
  (τ.2.1 13 v = -1 ∨ In v (τ.2.1 13 v)) ∧ (τ.2.1 14 v = -1 ∨ In v (τ.2.1 14 v)) ∧ (τ.2.1 12 v = -1 → τ.2.1 13 v = -1 ∧ τ.2.1 14 v = -1) ∧
  τ.2.2 17 v = 1 + soF (τ.2.2 17) (τ.2.1 13 v) + soF (τ.2.2 17) (τ.2.1 14 v) ∧
  τ.2.1 15 v = 1 + mx (soF (τ.2.1 15) (τ.2.1 13 v)) (soF (τ.2.1 15) (τ.2.1 14 v)) ∧
  τ.2.2 18 v = (if τ.2.1 12 v = -1 then p2 v.toNat else orI (soF (τ.2.2 18) (τ.2.1 13 v)) (soF (τ.2.2 18) (τ.2.1 14 v))) ∧
  (1 ≤ τ.2.2 17 v ∧ τ.2.2 17 v < p2 (v.toNat + 1)) ∧ (1 ≤ τ.2.1 15 v ∧ τ.2.1 15 v ≤ v + 1) ∧ (0 ≤ τ.2.2 18 v ∧ τ.2.2 18 v < p2 (v.toNat + 1))
def VT (τ : S0) : Prop := 0 ≤ τ.1 3 ∧ ∀ v, In (τ.1 3) v → VV τ v
theorem soF_ui {Z : Int → Int} {m X a v : Int} (h : a = -1 ∨ In v a) (hv : v ≤ m) : soF (ui Z m X) a = soF Z a := by
  unfold soF
  by_cases e : a = -1
  · rw [if_pos e, if_pos e]
  · rw [if_neg e, if_neg e, ui_ne Z X (by omega)]
theorem soF_le {Z : Int → Int} {a c : Int} (h0 : 0 ≤ c) (h : a ≠ -1 → Z a ≤ c) : soF Z a ≤ c := by
  unfold soF
  by_cases e : a = -1
  · rw [if_pos e]; exact h0
  · rw [if_neg e]; exact h e
theorem soF_nonneg {Z : Int → Int} {a : Int} (h : a ≠ -1 → 0 ≤ Z a) : 0 ≤ soF Z a := by
  unfold soF
  by_cases e : a = -1
  · rw [if_pos e]; exact Int.le_refl _
  · rw [if_neg e]; exact h e
/-- an old value is untouched by a new one -/
theorem vv_old {τ u : S0} {m v X12 X13 X14 X15 X17 X18 : Int} (h : VV τ v) (hv : v < m) (h12 : u.2.1 12 = ui (τ.2.1 12) m X12) (h13 : u.2.1 13 = ui (τ.2.1 13) m X13) (h14 : u.2.1 14 = ui (τ.2.1 14) m X14) (h15 : u.2.1 15 = ui (τ.2.1 15) m X15) (h17 : u.2.2 17 = ui (τ.2.2 17) m X17) (h18 : u.2.2 18 = ui (τ.2.2 18) m X18) : VV u v := by
  obtain ⟨a1, a2, a3, a4, a5, a6, a7, a8, a9⟩ := h
  have hne : v ≠ m := by omega
  unfold VV
  rw [h12, h13, h14, h15, h17, h18, ui_ne _ _ hne, ui_ne _ _ hne, ui_ne _ _ hne, ui_ne _ _ hne, ui_ne _ _ hne, ui_ne _ _ hne, soF_ui a1 (by omega), soF_ui a2 (by omega), soF_ui a1 (by omega), soF_ui a2 (by omega), soF_ui a1 (by omega), soF_ui a2 (by omega)]
  exact ⟨a1, a2, a3, a4, a5, a6, a7, a8, a9⟩
theorem vt_bounds {τ : S0} (h : VT τ) {a : Int} (ha : a = -1 ∨ In (τ.1 3) a) : (0 ≤ soF (τ.2.2 17) a ∧ soF (τ.2.2 17) a < p2 (τ.1 3).toNat) ∧ (0 ≤ soF (τ.2.1 15) a ∧ soF (τ.2.1 15) a ≤ τ.1 3) ∧ (0 ≤ soF (τ.2.2 18) a ∧ soF (τ.2.2 18) a < p2 (τ.1 3).toNat) := by
  have hp := p2_pos (τ.1 3).toNat
  have h0 := h.1
  rcases ha with ha | ha
  · unfold soF
    rw [if_pos ha, if_pos ha, if_pos ha]
    omega
  · have e : a ≠ -1 := by omega
    unfold soF
    rw [if_neg e, if_neg e, if_neg e]
    obtain ⟨-, -, -, -, -, -, b1, b2, b3⟩ := h.2 a ha
    have hq := p2_le (show a.toNat + 1 ≤ (τ.1 3).toNat by omega)
    omega
/-- addValue keeps the table -/
theorem vt_adv {τ : S0} {k a b : Int} (h : VT τ) (ha : a = -1 ∨ In (τ.1 3) a) (hb : b = -1 ∨ In (τ.1 3) b) (hk : k ≠ -1) : VT (adv τ k a b) := by
  obtain ⟨h0, h1⟩ := h
  have hm : (adv τ k a b).1 3 = τ.1 3 + 1 := rfl
  refine ⟨by omega, fun v hv => ?_⟩
  rw [hm] at hv
  by_cases e : v = τ.1 3
  · subst e
    obtain ⟨⟨s1, s2⟩, ⟨s3, s4⟩, s5, s6⟩ := vt_bounds ⟨h0, h1⟩ ha
    obtain ⟨⟨t1, t2⟩, ⟨t3, t4⟩, t5, t6⟩ := vt_bounds ⟨h0, h1⟩ hb
    unfold VV
    rw [adv_12, adv_13, adv_14, adv_15, adv_17, adv_18, ui_at, ui_at, ui_at, ui_at, ui_at, ui_at, soF_ui ha (Int.le_refl _), soF_ui hb (Int.le_refl _), soF_ui ha (Int.le_refl _), soF_ui hb (Int.le_refl _), soF_ui ha (Int.le_refl _), soF_ui hb (Int.le_refl _)]
    rw [p2_succ]
    have hmx := le_mx (soF (τ.2.1 15) a) (soF (τ.2.1 15) b)
    have hmy := mx_le s4 t4
    have hor := orI_lt s6 t6
    refine ⟨ha, hb, fun q => absurd q hk, rfl, rfl, (if_neg hk).symm, by omega, by omega, by omega⟩
  · exact vv_old (h1 v ⟨hv.1, by omega⟩) (by omega) (adv_12 τ k a b) (adv_13 τ k a b) (adv_14 τ k a b) (adv_15 τ k a b) (adv_17 τ k a b) (adv_18 τ k a b)
theorem adw_18 (τ : S0) : (adw τ).2.2 18 = ui (τ.2.2 18) (τ.1 3) (2 ^ (τ.1 3).toNat) := by
  show ui (ui (τ.2.2 18) (τ.1 3) _) (τ.1 3) _ = _
  funext j
  unfold ui
  split <;> rfl
theorem p2_pow (k : Nat) : (2 : Int) ^ k = p2 k := by
  unfold p2
  rw [Int.natCast_pow]
  rfl
/-- addVariable keeps the table -/
theorem vt_adw {τ : S0} (h : VT τ) : VT (adw τ) := by
  obtain ⟨h0, h1⟩ := h
  have hm : (adw τ).1 3 = τ.1 3 + 1 := rfl
  refine ⟨by omega, fun v hv => ?_⟩
  rw [hm] at hv
  have e12 : (adw τ).2.1 12 = ui (τ.2.1 12) (τ.1 3) (-1) := rfl
  have e13 : (adw τ).2.1 13 = ui (τ.2.1 13) (τ.1 3) (-1) := rfl
  have e14 : (adw τ).2.1 14 = ui (τ.2.1 14) (τ.1 3) (-1) := rfl
  have e15 : (adw τ).2.1 15 = ui (τ.2.1 15) (τ.1 3) (1 + mx (soF (τ.2.1 15) (-1)) (soF (τ.2.1 15) (-1))) := rfl
  have e17 : (adw τ).2.2 17 = ui (τ.2.2 17) (τ.1 3) (1 + soF (τ.2.2 17) (-1) + soF (τ.2.2 17) (-1)) := rfl
  by_cases e : v = τ.1 3
  · subst e
    unfold VV
    rw [e12, e13, e14, e15, e17, adw_18, ui_at, ui_at, ui_at, ui_at, ui_at, ui_at, p2_pow]
    have hp := p2_pos (τ.1 3).toNat
    rw [p2_succ]
    refine ⟨Or.inl rfl, Or.inl rfl, fun _ => ⟨rfl, rfl⟩, rfl, rfl, (if_pos rfl).symm, ?_, ?_, ?_⟩
    · show (1 : Int) ≤ 1 + 0 + 0 ∧ (1 : Int) + 0 + 0 < _
      omega
    · show (1 : Int) ≤ 1 + 0 ∧ (1 : Int) + 0 ≤ _
      omega
    · omega
  · exact vv_old (h1 v ⟨hv.1, by omega⟩) (by omega) e12 e13 e14 e15 e17 (adw_18 τ)
