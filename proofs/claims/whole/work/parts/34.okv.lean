/-! bounds of new values -/
theorem p2_40 : p2 40 = 1099511627776 := by decide
theorem ok_adv {τ : S0} {k a b : Int} (h : Ok τ) (hv : VT τ) (hm : τ.1 3 < 40) (ha : a = -1 ∨ In (τ.1 3) a) (hb : b = -1 ∨ In (τ.1 3) b) (hk : Rg k) : Ok (adv τ k a b) := by
  obtain ⟨⟨s1, s2⟩, ⟨s3, s4⟩, s5, s6⟩ := vt_bounds hv ha
  obtain ⟨⟨t1, t2⟩, ⟨t3, t4⟩, t5, t6⟩ := vt_bounds hv hb
  have h0 := hv.1
  have hp := p2_le (show (τ.1 3).toNat ≤ 40 by omega)
  rw [p2_40] at hp
  have hmy := mx_le s4 t4
  have hmx := le_mx (soF (τ.2.1 15) a) (soF (τ.2.1 15) b)
  have hor := orI_lt s6 t6
  exact ok_stI (ok_stF (ok_stL (ok_stF (ok_stL (ok_stF (ok_stF (ok_stF h hk) ⟨by omega, by omega⟩) ⟨by omega, by omega⟩) ⟨by omega, by omega⟩) ⟨by omega, by omega⟩) ⟨by omega, by omega⟩) ⟨by decide, by decide⟩) ⟨by omega, by omega⟩
theorem ok_adw {τ : S0} (h : Ok τ) (hv : VT τ) (hm : τ.1 3 < 40) (hf : Rg (τ.1 4 + 1)) : Ok (adw τ) := by
  have h0 := hv.1
  have hp := p2_le (show (τ.1 3).toNat ≤ 40 by omega)
  have hq := p2_pos (τ.1 3).toNat
  rw [p2_40] at hp
  refine ok_stI (ok_stL (ok_adv h hv hm (Or.inl rfl) (Or.inl rfl) ⟨by decide, by decide⟩) ?_) hf
  rw [p2_pow]
  exact ⟨by omega, by omega⟩
