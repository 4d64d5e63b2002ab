/-! the i-th of a value as it is written -/
def leaf (τ : S0) (v : Int) : Int := if τ.2.1 12 v = -1 then -1 - τ.2.1 16 v else τ.2.1 12 v
def wrF (τ : S0) : Nat → Int → Int → Int
  | 0, v, _ => leaf τ v
  | f + 1, v, i => if i ≤ 0 then leaf τ v else if i - 1 < soF (τ.2.2 17) (τ.2.1 13 v) then wrF τ f (τ.2.1 13 v) (i - 1) else wrF τ f (τ.2.1 14 v) (i - 1 - soF (τ.2.2 17) (τ.2.1 13 v))
def wr (τ : S0) (v i : Int) : Int := wrF τ (v.toNat + 1) v i
theorem wr_args {τ : S0} (h : VT τ) {v i : Int} (hv : In (τ.1 3) v) (h0 : 0 < i) (h1 : i < τ.2.2 17 v) :
    (i - 1 < soF (τ.2.2 17) (τ.2.1 13 v) → In v (τ.2.1 13 v) ∧ i - 1 < τ.2.2 17 (τ.2.1 13 v)) ∧ (¬ i - 1 < soF (τ.2.2 17) (τ.2.1 13 v) → In v (τ.2.1 14 v) ∧ 0 ≤ i - 1 - soF (τ.2.2 17) (τ.2.1 13 v) ∧ i - 1 - soF (τ.2.2 17) (τ.2.1 13 v) < τ.2.2 17 (τ.2.1 14 v)) := by
  obtain ⟨a1, a2, -, a4, -⟩ := h.2 v hv
  refine ⟨fun q => ?_, fun q => ?_⟩
  · by_cases c : τ.2.1 13 v = -1
    · have e : soF (τ.2.2 17) (τ.2.1 13 v) = 0 := if_pos c
      omega
    · have e : soF (τ.2.2 17) (τ.2.1 13 v) = τ.2.2 17 (τ.2.1 13 v) := if_neg c
      exact ⟨a1.resolve_left c, by omega⟩
  · by_cases c : τ.2.1 14 v = -1
    · have e : soF (τ.2.2 17) (τ.2.1 14 v) = 0 := if_pos c
      omega
    · have e : soF (τ.2.2 17) (τ.2.1 14 v) = τ.2.2 17 (τ.2.1 14 v) := if_neg c
      exact ⟨a2.resolve_left c, by omega, by omega⟩
theorem wrF_fuel {τ : S0} (h : VT τ) : ∀ (f g : Nat) (v i : Int), In (τ.1 3) v → 0 ≤ i → i < τ.2.2 17 v → v.toNat + 1 ≤ f → v.toNat + 1 ≤ g → wrF τ f v i = wrF τ g v i
  | 0, _, _, _, _, _, _, hf, _ => by omega
  | _ + 1, 0, _, _, _, _, _, _, hg => by omega
  | f + 1, g + 1, v, i, hv, h0, h1, hf, hg => by
    unfold wrF
    by_cases c : i ≤ 0
    · rw [if_pos c, if_pos c]
    · rw [if_neg c, if_neg c]
      obtain ⟨q1, q2⟩ := wr_args h hv (by omega) h1
      by_cases c2 : i - 1 < soF (τ.2.2 17) (τ.2.1 13 v)
      · rw [if_pos c2, if_pos c2]
        obtain ⟨p1, p2⟩ := q1 c2
        exact wrF_fuel h f g _ _ ⟨p1.1, by omega⟩ (by omega) p2 (by omega) (by omega)
      · rw [if_neg c2, if_neg c2]
        obtain ⟨p1, p2, p3⟩ := q2 c2
        exact wrF_fuel h f g _ _ ⟨p1.1, by omega⟩ p2 p3 (by omega) (by omega)
theorem wr_0 (τ : S0) (v : Int) : wr τ v 0 = leaf τ v := by
  unfold wr wrF
  rw [if_pos (Int.le_refl _)]
theorem wr_1 {τ : S0} (h : VT τ) {v i : Int} (hv : In (τ.1 3) v) (h0 : 0 < i) (h1 : i < τ.2.2 17 v) (c : i - 1 < soF (τ.2.2 17) (τ.2.1 13 v)) : wr τ v i = wr τ (τ.2.1 13 v) (i - 1) := by
  obtain ⟨p1, p2⟩ := (wr_args h hv h0 h1).1 c
  show (if i ≤ 0 then _ else if i - 1 < soF (τ.2.2 17) (τ.2.1 13 v) then wrF τ v.toNat (τ.2.1 13 v) (i - 1) else _) = _
  rw [if_neg (by omega), if_pos c]
  exact wrF_fuel h _ _ _ _ ⟨p1.1, by omega⟩ (by omega) p2 (by omega) (by omega)
theorem wr_2 {τ : S0} (h : VT τ) {v i : Int} (hv : In (τ.1 3) v) (h0 : 0 < i) (h1 : i < τ.2.2 17 v) (c : ¬ i - 1 < soF (τ.2.2 17) (τ.2.1 13 v)) : wr τ v i = wr τ (τ.2.1 14 v) (i - 1 - soF (τ.2.2 17) (τ.2.1 13 v)) := by
  obtain ⟨p1, p2, p3⟩ := (wr_args h hv h0 h1).2 c
  show (if i ≤ 0 then _ else if i - 1 < soF (τ.2.2 17) (τ.2.1 13 v) then _ else wrF τ v.toNat (τ.2.1 14 v) (i - 1 - soF (τ.2.2 17) (τ.2.1 13 v))) = _
  rw [if_neg (by omega), if_neg c]
  exact wrF_fuel h _ _ _ _ ⟨p1.1, by omega⟩ p2 p3 (by omega) (by omega)
theorem vt_lt40 {τ : S0} (h : VT τ) (h40 : τ.1 3 ≤ 40) {v : Int} (hv : In (τ.1 3) v) : τ.2.2 17 v < 1099511627776 := by
  obtain ⟨-, -, -, -, -, -, b, -⟩ := h.2 v hv
  have q := p2_le (show v.toNat + 1 ≤ 40 by omega)
  rw [p2_40] at q
  omega
