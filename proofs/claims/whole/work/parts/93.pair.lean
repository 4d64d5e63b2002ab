/-! one call of each side: the class's state τ and the reference's σ go on side by side -/
def LQ (g : Int → Int) (k : Int) (u : S0 × (Int → Int)) (b : Int) (σ' : S0) : Prop := REL u.1 σ' ∧ σ'.1 0 = k ∧ (k = 0 → u.2 0 = g b)
theorem ok_z0 : Ok z0 := ⟨fun _ => Rg_0, fun _ _ => Rg_0, fun _ _ _ => (show RgL 0 from ⟨by decide, by decide⟩)⟩
def sU0 : S0 := stR z0 21 (fun j => if 0 ≤ j ∧ j < 40 then j else 0)
section PAIR
variable {τ σ : S0}
theorem rel_5 {v c : Int} (h : REL τ σ) (hv : Rg v) (hc : Rg c) : REL (stI τ 5 v) (stI (stI σ 1 v) 0 c) := by
  obtain ⟨h1, h2, h3, h4, h5, h6⟩ := h
  exact ⟨inv_5 h1 hv, ok_stI (ok_stI h2 hv) hc, h3, h4, rfl, h6⟩
theorem vt_frp {u : S0} (hf : FRp τ u) (h : VT τ) : VT u := by
  obtain ⟨f1, f2, f3⟩ := hf
  have e17 := f3 17 (by omega) (by omega)
  have e18 := f3 18 (by omega) (by omega)
  unfold VT VV at h ⊢
  rw [f1, f2, e17, e18]
  exact h
theorem inv_frp {u : S0} {e1 e2 : Int → Int} (hf : FRp τ u) (ho : Ok u) (h : INV τ e1 e2) : INV u e1 e2 := by
  obtain ⟨⟨-, h2, h3, h4, h5, h6⟩, v1, v2, v3, v4, v5, v6, v7, v8⟩ := h
  have hv := vt_frp hf v1
  obtain ⟨f1, f2, f3⟩ := hf
  unfold INV INV0 VF RowsOk cl kr DV
  rw [f1, f2]
  exact ⟨⟨ho, h2, h3, h4, h5, h6⟩, hv, v2, v3, v4, v5, v6, v7, v8⟩
theorem prep_frp {u v : S0} {kd fa sa val : Int → Int} (hf : FRp τ u) (h : PREP v kd fa sa τ val) : PREP v kd fa sa u val := by
  obtain ⟨⟨⟨n1, n2⟩, k⟩, r⟩ := h
  have hv := vt_frp hf n1
  obtain ⟨f1, f2, f3⟩ := hf
  have e17 := f3 17 (by omega) (by omega)
  have e18 := f3 18 (by omega) (by omega)
  refine ⟨⟨⟨hv, ?_⟩, ?_⟩, r⟩
  · unfold NVx at n2 ⊢
    rw [f1, f2]
    exact n2
  · unfold KN at k ⊢
    rw [f1, f2, e17, e18]
    exact k
theorem rel_frp {u : S0} (hf : FRp τ u) (ho : Ok u) (h : REL τ σ) : REL u σ := by
  obtain ⟨h1, h2, h3, h4, h5, h6⟩ := h
  have hi := inv_frp hf ho h1
  refine ⟨hi, h2, ?_, ?_, ?_, ?_⟩
  · rw [hf.1, hf.2.1]; exact h3
  · rw [hf.1]; exact h4
  · rw [hf.1]; exact h5
  · rcases h6 with h6 | ⟨h6, h7⟩
    · exact Or.inl h6
    · refine Or.inr ⟨h6, ?_⟩
      rw [hf.2.1]
      exact prep_frp hf h7
/-- a new node on both sides -/
theorem rel_new {u : S0} {k f m a b : Int} (h : REL τ σ) (hn : τ.1 0 < 40) (hk : sy k = f) (hm : my k = m) (hf : Rg f) (hm' : Rg m) (ha : Rg a) (hb : Rg b) (hF : FRv (mkn τ k a b) u) (hI : INV u (σ.2.1 5) (σ.2.1 6)) : REL u (mkm (stI σ 0 0) f m a b) := by
  obtain ⟨h1, h2, h3, h4, h5, h6⟩ := h
  obtain ⟨f0, f1, f2, f5, fF, -⟩ := hF
  have n0 := h1.1.2.1.1
  have e2 : σ.1 2 = τ.1 0 := h3.1
  refine ⟨hI, ?_, ?_, ?_, ?_, Or.inl rfl⟩
  · have ok0 := ok_stI (q := 0) (v := 0) h2 Rg_0
    exact ok_stI (ok_stI (ok_stF (ok_stF (ok_stF (ok_stF ok0 hf) hm') ha) hb) (by show Rg (σ.1 2 + 1); exact ⟨by omega, by omega⟩)) Rg_0
  · rw [f0, fF 5 (by omega), fF 6 (by omega), fF 7 (by omega)]
    show σ.1 2 + 1 = τ.1 0 + 1 ∧ ∀ x, In (τ.1 0 + 1) x → ui (σ.2.1 1) (σ.1 2) f x = sy (ui (τ.2.1 5) (τ.1 0) k x) ∧ ui (σ.2.1 2) (σ.1 2) m x = my (ui (τ.2.1 5) (τ.1 0) k x) ∧ ui (σ.2.1 3) (σ.1 2) a x = ui (τ.2.1 6) (τ.1 0) a x ∧ ui (σ.2.1 4) (σ.1 2) b x = ui (τ.2.1 7) (τ.1 0) b x
    rw [e2]
    refine ⟨rfl, fun x hx => ?_⟩
    by_cases c : x = τ.1 0
    · subst c
      rw [ui_at, ui_at, ui_at, ui_at, ui_at, ui_at, ui_at]
      exact ⟨hk.symm, hm.symm, rfl, rfl⟩
    · rw [ui_ne _ _ c, ui_ne _ _ c, ui_ne _ _ c, ui_ne _ _ c, ui_ne _ _ c, ui_ne _ _ c, ui_ne _ _ c]
      exact h3.2 x ⟨hx.1, by have := hx.2; omega⟩
  · rw [f2]; exact h4
  · rw [f5]; exact h5
theorem jSA : rc_jS ≠ rc_jA := by decide
theorem jXA : rc_jX ≠ rc_jA := by decide
theorem lq_variable {k b : Int} {u : S0 × (Int → Int)} {σ' : S0} (h : REL τ σ) (hc : Wp1 sI (fun z u => τ.1 0 < 40 ∧ τ.1 0 = z ∧ FRv (mkn τ (-1) (-1) (-1)) u ∧ INV u (σ.2.1 5) (σ.2.1 6)) (fun E u => E = rc_jS ∧ 40 ≤ τ.1 0 ∧ τ = u) rc_jS k u)
    (hm : (σ.1 2 = 40 ∧ 0 = b ∧ stI σ 0 1 = σ') ∨ (σ.1 2 < 40 ∧ σ.1 2 = b ∧ mkm (stI σ 0 0) (-1) 0 (-1) (-1) = σ')) : LQ sI k u b σ' := by
  have e2 : σ.1 2 = τ.1 0 := h.2.2.1.1
  have r9 : Rg (-1) := ⟨by decide, by decide⟩
  rcases hc with ⟨rfl, r, ⟨c1, c2, c3, c4⟩, c5⟩ | ⟨rfl, -, c1, c2⟩
  · rcases hm with ⟨m1, -, -⟩ | ⟨m1, m2, rfl⟩
    · omega
    · exact ⟨rel_new h c1 rfl rfl r9 Rg_0 r9 r9 c3 c4, rfl, fun _ => by rw [c5, ← c2, ← m2, e2]⟩
  · rcases hm with ⟨m1, -, rfl⟩ | ⟨m1, -, -⟩
    · exact ⟨by rw [← c2]; exact rel_0 h ⟨by decide, by decide⟩, rfl, fun q => absurd q (by decide)⟩
    · omega
theorem tk_sy {n f a b : Int} (h : TermOk n f a b) : sy (tk f a b) = f ∧ my (tk f a b) = mny a b := by
  obtain ⟨⟨f0, f1⟩, h1, h2, h3⟩ := h
  unfold sy my mny tk
  by_cases ca : a = -1
  · by_cases cb : b = -1
    · rw [if_pos ca, if_pos cb, if_neg (by omega), if_neg (by omega), if_pos (by omega)]
      exact ⟨by omega, by omega⟩
    · exact absurd ⟨ca, cb⟩ h1
  · have ia := h2.resolve_left ca
    by_cases cb : b = -1
    · rw [if_neg ca, if_pos cb, if_neg (by omega), if_neg (by omega), if_neg (by omega), if_pos (by omega)]
      exact ⟨by omega, by omega⟩
    · have ib := h3.resolve_left cb
      rw [if_neg ca, if_neg cb, if_neg (by omega), if_neg (by omega), if_neg (by omega), if_neg (by omega)]
      exact ⟨by omega, by omega⟩
theorem mny_rg (a b : Int) : Rg (mny a b) := by
  unfold mny
  split
  · exact Rg_0
  · split
    · exact ⟨by decide, by decide⟩
    · exact ⟨by decide, by decide⟩
theorem lq_term {k z f a b : Int} {u : S0 × (Int → Int)} {σ' : S0} (h : REL τ σ) (hf : Rg f) (ha : Rg a) (hb : Rg b) (hc : Wp2 sI (fun z u => TermOk (τ.1 0) f a b ∧ τ.1 0 < 40 ∧ τ.1 0 = z ∧ FRv (mkn τ (tk f a b) a b) u ∧ INV u (σ.2.1 5) (σ.2.1 6)) (fun E u => (E = rc_jA ∧ ¬ TermOk (τ.1 0) f a b ∧ τ = u) ∨ (E = rc_jS ∧ TermOk (τ.1 0) f a b ∧ 40 ≤ τ.1 0 ∧ τ = u)) rc_jA rc_jS k u)
    (hm : (¬ TermOk (σ.1 2) f a b ∧ stI σ 0 1 = σ') ∨ (TermOk (σ.1 2) f a b ∧ σ.1 2 = 40 ∧ stI σ 0 2 = σ') ∨ (TermOk (σ.1 2) f a b ∧ σ.1 2 < 40 ∧ σ.1 2 = z ∧ mkm (stI σ 0 0) f (mny a b) a b = σ')) : LQ sI k u z σ' := by
  have e2 : σ.1 2 = τ.1 0 := h.2.2.1.1
  rw [e2] at hm
  rcases hc with ⟨rfl, r, ⟨c0, c1, c2, c3, c4⟩, c5⟩ | ⟨rfl, c⟩ | ⟨rfl, c⟩
  · rcases hm with ⟨m0, -⟩ | ⟨-, m1, -⟩ | ⟨-, -, m2, rfl⟩
    · exact absurd c0 m0
    · omega
    · obtain ⟨t1, t2⟩ := tk_sy c0
      exact ⟨rel_new h c1 t1 t2 hf (mny_rg a b) ha hb c3 c4, rfl, fun _ => by rw [c5, ← c2, ← m2]⟩
  · rcases c with ⟨-, c1, c2⟩ | ⟨c, -⟩
    · rcases hm with ⟨-, rfl⟩ | ⟨m0, -⟩ | ⟨m0, -⟩
      · exact ⟨by rw [← c2]; exact rel_0 h ⟨by decide, by decide⟩, rfl, fun q => absurd q (by decide)⟩
      · exact absurd m0 c1
      · exact absurd m0 c1
    · exact absurd c.symm jSA
  · rcases c with ⟨c, -⟩ | ⟨-, c0, c1, c2⟩
    · exact absurd c jSA
    · rcases hm with ⟨m0, -⟩ | ⟨-, -, rfl⟩ | ⟨-, m1, -⟩
      · exact absurd c0 m0
      · exact ⟨by rw [← c2]; exact rel_0 h ⟨by decide, by decide⟩, rfl, fun q => absurd q (by decide)⟩
      · omega
theorem lq_undo {k z n : Int} {u : S0 × (Int → Int)} {σ' : S0} (h : REL τ σ) (hc : Wp1 sI (fun z u => (0 ≤ n ∧ n ≤ τ.1 2) ∧ SN τ u ∧ u.1 2 = τ.1 2 - n ∧ u.1 5 = τ.1 5 ∧ INV u (σ.2.1 5) (σ.2.1 6) ∧ u.1 2 = z) (fun E u => E = rc_jA ∧ ¬ (0 ≤ n ∧ n ≤ τ.1 2) ∧ τ = u) rc_jA k u)
    (hm : ((0 ≤ n ∧ n ≤ σ.1 3) ∧ σ.1 3 - n = z ∧ stI (stI (stI σ 0 0) 3 (σ.1 3 - n)) 4 0 = σ') ∨ (¬ (0 ≤ n ∧ n ≤ σ.1 3) ∧ stI σ 0 1 = σ')) : LQ sI k u z σ' := by
  have e3 : σ.1 3 = τ.1 2 := h.2.2.2.1
  rw [e3] at hm
  rcases hc with ⟨rfl, r, ⟨c0, ⟨s0, s5, s6, s7⟩, c2, c3, c4, c5⟩, c6⟩ | ⟨rfl, -, c1, c2⟩
  · rcases hm with ⟨-, m1, rfl⟩ | ⟨m0, -⟩
    · refine ⟨⟨c4, ?_, ?_, c2.symm, ?_, Or.inl rfl⟩, rfl, fun _ => by rw [c6, ← c5, ← m1, c2]⟩
      · have := h.1.1.2.2.1
        have := h.1.1.2.2.2.1
        exact ok_stI (ok_stI (ok_stI h.2.1 Rg_0) ⟨by omega, by omega⟩) Rg_0
      · rw [s0, s5, s6, s7]
        exact h.2.2.1
      · rw [c3]
        exact h.2.2.2.2.1
    · exact absurd c0 m0
  · rcases hm with ⟨m0, -, -⟩ | ⟨-, rfl⟩
    · exact absurd m0 c1
    · exact ⟨by rw [← c2]; exact rel_0 h ⟨by decide, by decide⟩, rfl, fun q => absurd q (by decide)⟩
/-- the answers of calls that only look -/
theorem lq_look {g : Int → Int} {good : Prop} {v k z : Int} {u : S0 × (Int → Int)} {σ' : S0} (hc : Wp1 g (fun z u => good ∧ v = z ∧ τ = u) (fun E u => E = rc_jA ∧ ¬ good ∧ τ = u) rc_jA k u) (hm : PQ τ good v z σ') : LQ g k u z σ' := by
  obtain ⟨hr, hm⟩ := hm
  rcases hc with ⟨rfl, r, ⟨c0, c1, c2⟩, c3⟩ | ⟨rfl, -, c1, c2⟩
  · rcases hm with ⟨-, m1, m2⟩ | ⟨m0, -⟩
    · exact ⟨by rw [← c2]; exact hr, m1, fun _ => by rw [c3, ← c1, ← m2]⟩
    · exact absurd c0 m0
  · rcases hm with ⟨m0, -, -⟩ | ⟨-, m1⟩
    · exact absurd m0 c1
    · exact ⟨by rw [← c2]; exact hr, m1, fun q => absurd q (by decide)⟩
theorem lq_at {s i k z : Int} {u : S0 × (Int → Int)} {σ' : S0} (hc : Wp2 sI (fun z u => In (τ.1 0) s ∧ (0 ≤ i ∧ i < τ.2.2 17 (τ.2.1 11 s)) ∧ wr τ (τ.2.1 11 s) i = z ∧ τ = u) (fun E u => (E = rc_jA ∧ ¬ In (τ.1 0) s ∧ τ = u) ∨ (E = rc_jX ∧ In (τ.1 0) s ∧ ¬ (0 ≤ i ∧ i < τ.2.2 17 (τ.2.1 11 s)) ∧ τ = u)) rc_jA rc_jX k u)
    (hm : REL τ σ' ∧ ((¬ In (τ.1 0) s ∧ σ'.1 0 = 1) ∨ (In (τ.1 0) s ∧ ¬ (0 ≤ i ∧ i < τ.2.2 17 (τ.2.1 11 s)) ∧ σ'.1 0 = 2) ∨ (In (τ.1 0) s ∧ (0 ≤ i ∧ i < τ.2.2 17 (τ.2.1 11 s)) ∧ σ'.1 0 = 0 ∧ wr τ (τ.2.1 11 s) i = z))) : LQ sI k u z σ' := by
  obtain ⟨hr, hm⟩ := hm
  rcases hc with ⟨rfl, r, ⟨c0, c1, c2, c3⟩, c4⟩ | ⟨rfl, c⟩ | ⟨rfl, c⟩
  · rcases hm with ⟨m0, -⟩ | ⟨-, m0, -⟩ | ⟨-, -, m1, m2⟩
    · exact absurd c0 m0
    · exact absurd c1 m0
    · exact ⟨by rw [← c3]; exact hr, m1, fun _ => by rw [c4, ← c2, ← m2]⟩
  · rcases c with ⟨-, c1, c2⟩ | ⟨c, -⟩
    · rcases hm with ⟨-, m1⟩ | ⟨m0, -⟩ | ⟨m0, -⟩
      · exact ⟨by rw [← c2]; exact hr, m1, fun q => absurd q (by decide)⟩
      · exact absurd m0 c1
      · exact absurd m0 c1
    · exact absurd c.symm jXA
  · rcases c with ⟨c, -⟩ | ⟨-, c0, c1, c2⟩
    · exact absurd c jXA
    · rcases hm with ⟨m0, -⟩ | ⟨-, -, m1⟩ | ⟨-, m0, -⟩
      · exact absurd c0 m0
      · exact ⟨by rw [← c2]; exact hr, m1, fun q => absurd q (by decide)⟩
      · exact absurd m0 c1
theorem lq_matches {s t k z : Int} {u : S0 × (Int → Int)} {σ' : S0} (hc : Wp1 (fun r => r) (fun z u => In (τ.1 0) s ∧ In (τ.1 0) t ∧ FRp τ u ∧ Ok u ∧ ((1 = z ∧ MatchOK τ (τ.2.1 11 s) (τ.2.1 11 t)) ∨ (0 = z ∧ ¬ MatchOK τ (τ.2.1 11 s) (τ.2.1 11 t)))) (fun E u => E = rc_jA ∧ ¬ (In (τ.1 0) s ∧ In (τ.1 0) t) ∧ τ = u) rc_jA k u)
    (hm : REL τ σ' ∧ (((In (τ.1 0) s ∧ In (τ.1 0) t) ∧ σ'.1 0 = 0 ∧ ((1 = z ∧ MatchOK τ (τ.2.1 11 s) (τ.2.1 11 t)) ∨ (0 = z ∧ ¬ MatchOK τ (τ.2.1 11 s) (τ.2.1 11 t)))) ∨ (¬ (In (τ.1 0) s ∧ In (τ.1 0) t) ∧ σ'.1 0 = 1))) : LQ (fun r => r) k u z σ' ∧ (k = 0 → z = 0 ∨ z = 1) := by
  obtain ⟨hr, hm⟩ := hm
  rcases hc with ⟨rfl, r, ⟨c0, c1, c2, c3, c4⟩, c5⟩ | ⟨rfl, -, c1, c2⟩
  · rcases hm with ⟨-, m1, m2⟩ | ⟨m0, -⟩
    · refine ⟨⟨rel_frp c2 c3 hr, m1, fun _ => ?_⟩, fun _ => ?_⟩
      · rw [c5]
        rcases c4 with ⟨a1, a2⟩ | ⟨a1, a2⟩ <;> rcases m2 with ⟨b1, b2⟩ | ⟨b1, b2⟩
        · exact a1.symm.trans b1
        · exact absurd a2 b2
        · exact absurd b2 a2
        · exact a1.symm.trans b1
      · rcases m2 with ⟨b1, -⟩ | ⟨b1, -⟩
        · exact Or.inr b1.symm
        · exact Or.inl b1.symm
    · exact absurd ⟨c0, c1⟩ m0
  · rcases hm with ⟨m0, -, -⟩ | ⟨-, m1⟩
    · exact absurd m0 c1
    · exact ⟨⟨by rw [← c2]; exact hr, m1, fun q => absurd q (by decide)⟩, fun q => absurd q (by decide)⟩
theorem lq_common {s t k z : Int} {u : S0 × (Int → Int)} {σ' : S0} (hc : Wp1 (fun r => r) (fun z u => In (τ.1 0) s ∧ In (τ.1 0) t ∧ FRp τ u ∧ Ok u ∧ cm τ (τ.2.1 11 s) (τ.2.1 11 t) = z) (fun E u => E = rc_jA ∧ ¬ (In (τ.1 0) s ∧ In (τ.1 0) t) ∧ τ = u) rc_jA k u) (hm : PQ τ (In (τ.1 0) s ∧ In (τ.1 0) t) (CM τ s t) z σ') : LQ (fun r => r) k u z σ' := by
  obtain ⟨hr, hm⟩ := hm
  rcases hc with ⟨rfl, r, ⟨c0, c1, c2, c3, c4⟩, c5⟩ | ⟨rfl, -, c1, c2⟩
  · rcases hm with ⟨-, m1, m2⟩ | ⟨m0, -⟩
    · exact ⟨rel_frp c2 c3 hr, m1, fun _ => by rw [c5, ← c4]; exact m2⟩
    · exact absurd ⟨c0, c1⟩ m0
  · rcases hm with ⟨m0, -, -⟩ | ⟨-, m1⟩
    · exact absurd m0 c1
    · exact ⟨by rw [← c2]; exact hr, m1, fun q => absurd q (by decide)⟩
theorem lq_same {s t k z : Int} {u : S0 × (Int → Int)} {σ' : S0} (hc : Wp1 (fun r => r) (fun z u => In (τ.1 0) s ∧ In (τ.1 0) t ∧ bz (τ.2.1 11 s = τ.2.1 11 t) = z ∧ τ = u) (fun E u => E = rc_jA ∧ ¬ (In (τ.1 0) s ∧ In (τ.1 0) t) ∧ τ = u) rc_jA k u) (hm : PQ τ (In (τ.1 0) s ∧ In (τ.1 0) t) (bz (τ.2.1 11 s = τ.2.1 11 t)) z σ') : LQ (fun r => r) k u z σ' ∧ (k = 0 → z = 0 ∨ z = 1) := by
  refine ⟨lq_look (good := In (τ.1 0) s ∧ In (τ.1 0) t) (v := bz (τ.2.1 11 s = τ.2.1 11 t)) (hc.imp (fun q => ⟨q.1, q.2.imp (fun r w => ⟨⟨⟨w.1.1, w.1.2.1⟩, w.1.2.2⟩, w.2⟩)⟩) id) hm, fun q => ?_⟩
  subst q
  rcases hm.2 with ⟨-, -, e⟩ | ⟨m0, m1⟩
  · rw [← e]
    unfold bz
    split
    · exact Or.inr rfl
    · exact Or.inl rfl
  · rcases hc with ⟨-, r, c, -⟩ | ⟨c, -⟩
    · exact absurd ⟨c.1, c.2.1⟩ m0
    · exact absurd c (by decide)
theorem ui_ext {s t : Int} (h : REL τ σ) : INV τ (ui (σ.2.1 5) (σ.1 3) s) (ui (σ.2.1 6) (σ.1 3) t) := inv_ext h.1 (fun k h0 h1 => by
  have e3 : σ.1 3 = τ.1 2 := h.2.2.2.1
  rw [ui_ne _ _ (by omega), ui_ne _ _ (by omega)]
  exact ⟨rfl, rfl⟩)
def UPost (τ : S0) (s t : Int) (e1 e2 : Int → Int) (z : Int) (u : S0) : Prop := In (τ.1 0) s ∧ In (τ.1 0) t ∧ τ.1 2 < 20 ∧ SN τ u ∧ u.1 2 = τ.1 2 + 1 ∧ u.1 5 = 0 ∧ INV u e1 e2 ∧ τ.1 4 - u.1 4 = z
def UPx (τ : S0) (s t : Int) (e1 e2 : Int → Int) (E : String) (u : S0) : Prop := (E = rc_jA ∧ ¬ (In (τ.1 0) s ∧ In (τ.1 0) t) ∧ stI τ 5 3 = u) ∨ (E = rc_jS ∧ In (τ.1 0) s ∧ In (τ.1 0) t ∧ 20 ≤ τ.1 2 ∧ stI τ 5 0 = u) ∨ (E = rc_jS ∧ In (τ.1 0) s ∧ In (τ.1 0) t ∧ τ.1 2 < 20 ∧ SN τ u ∧ u.1 2 = τ.1 2 ∧ INV u e1 e2 ∧ ((u.1 5 = 1 ∧ Clash (τ.1 0) (τ.2.1 5) (cl τ e1 e2 (τ.1 2 + 1))) ∨ (u.1 5 = 2 ∧ Loop (τ.1 0) (τ.2.1 5) (τ.2.1 6) (τ.2.1 7) (cl τ e1 e2 (τ.1 2 + 1)))))
/-- what the class told is what the reference wants to know -/
theorem lq_uok {s t k : Int} {e1 e2 : Int → Int} {u : S0 × (Int → Int)} (hc : Wp2 sI (UPost τ s t e1 e2) (UPx τ s t e1 e2) rc_jA rc_jS k u) (hin : In (τ.1 0) s ∧ In (τ.1 0) t) (h20 : τ.1 2 < 20) : UOK τ u.1 e1 e2 := by
  rcases hc with ⟨-, r, ⟨-, -, -, c1, c2, c3, c4, -⟩, -⟩ | ⟨-, c⟩ | ⟨-, c⟩
  · exact ⟨c1, c4, Or.inl ⟨c2, c3⟩⟩
  · rcases c with ⟨-, c, -⟩ | ⟨c, -⟩ | ⟨c, -⟩
    · exact absurd hin c
    · exact absurd c.symm jSA
    · exact absurd c.symm jSA
  · rcases c with ⟨c, -⟩ | ⟨-, -, -, c, -⟩ | ⟨-, -, -, -, c1, c2, c3, c4⟩
    · exact absurd c jSA
    · omega
    · exact ⟨c1, c3, Or.inr ⟨c2, c4⟩⟩
theorem lq_unify {s t k z : Int} {e1 e2 : Int → Int} {u : S0 × (Int → Int)} {σ' : S0} (h : REL τ σ) (hc : Wp2 sI (UPost τ s t e1 e2) (UPx τ s t e1 e2) rc_jA rc_jS k u)
    (hm : (¬ (In (τ.1 0) s ∧ In (τ.1 0) t) ∧ stI (stI σ 1 3) 0 1 = σ') ∨ ((In (τ.1 0) s ∧ In (τ.1 0) t) ∧ 20 ≤ τ.1 2 ∧ stI (stI σ 1 0) 0 2 = σ') ∨ ((In (τ.1 0) s ∧ In (τ.1 0) t) ∧ τ.1 2 < 20 ∧ REL u.1 σ' ∧ ((u.1.1 2 = τ.1 2 + 1 ∧ σ'.1 0 = 0 ∧ τ.1 4 - u.1.1 4 = z) ∨ (u.1.1 2 = τ.1 2 ∧ σ'.1 0 = 2)))) : LQ sI k u z σ' := by
  have r3 : Rg 3 := ⟨by decide, by decide⟩
  rcases hc with ⟨rfl, r, ⟨c1, c2, c3, -, c4, -, -, c5⟩, c6⟩ | ⟨rfl, c⟩ | ⟨rfl, c⟩
  · rcases hm with ⟨m0, -⟩ | ⟨-, m0, -⟩ | ⟨-, -, m1, m2⟩
    · exact absurd ⟨c1, c2⟩ m0
    · omega
    · rcases m2 with ⟨-, m3, m4⟩ | ⟨m3, -⟩
      · exact ⟨m1, m3, fun _ => by rw [c6, ← c5, ← m4]⟩
      · omega
  · rcases c with ⟨-, c1, c2⟩ | ⟨c, -⟩ | ⟨c, -⟩
    · rcases hm with ⟨-, rfl⟩ | ⟨m0, -⟩ | ⟨m0, -⟩
      · exact ⟨by rw [← c2]; exact rel_5 h r3 ⟨by decide, by decide⟩, rfl, fun q => absurd q (by decide)⟩
      · exact absurd m0 c1
      · exact absurd m0 c1
    · exact absurd c.symm jSA
    · exact absurd c.symm jSA
  · rcases c with ⟨c, -⟩ | ⟨-, c1, c2, c3, c4⟩ | ⟨-, c1, c2, c3, -, c4, -⟩
    · exact absurd c jSA
    · rcases hm with ⟨m0, -⟩ | ⟨-, -, rfl⟩ | ⟨-, m0, -⟩
      · exact absurd ⟨c1, c2⟩ m0
      · exact ⟨by rw [← c4]; exact rel_5 h Rg_0 ⟨by decide, by decide⟩, rfl, fun q => absurd q (by decide)⟩
      · omega
    · rcases hm with ⟨m0, -⟩ | ⟨-, m0, -⟩ | ⟨-, -, m1, m2⟩
      · exact absurd ⟨c1, c2⟩ m0
      · omega
      · rcases m2 with ⟨m3, -⟩ | ⟨-, m3⟩
        · omega
        · exact ⟨m1, m3, fun q => absurd q (by decide)⟩
end PAIR
/-! the start -/
theorem sU0_ext : eqA LT sT0 sU0 := by
  refine ⟨rfl, fun j i h0 h1 => ?_, fun _ _ _ _ => rfl⟩
  unfold sT0 sU0
  by_cases e : j = 21
  · subst e
    rw [stR_at, stR_at]
    have h40 : i < 40 := h1
    rw [if_pos ⟨h0, h40⟩]
  · rw [stR_ne _ _ e, stR_ne _ _ e]
theorem rel_start : REL sU0 z0 := by
  have ok : Ok sU0 := ok_stR ok_z0 (fun i => by
    show Rg (if 0 ≤ i ∧ i < 40 then i else 0)
    split
    · rename_i h; exact ⟨by omega, by omega⟩
    · exact Rg_0)
  have none : ∀ x, ¬ In 0 x := fun x h => by have h1 := h.1; have h2 := h.2; omega
  refine ⟨⟨⟨ok, ⟨Int.le_refl 0, by decide, fun x hx => absurd hx (none x)⟩, Int.le_refl 0, by decide, fun k h0 h1 => ?_, fun k hk => ?_⟩, ⟨Int.le_refl 0, fun v hv => absurd hv (none v)⟩, fun v v' hv => absurd hv (none v), by decide, fun x hx => absurd hx (none x), fun x y hx => absurd hx (none x), fun x y hx => absurd hx (none x), fun v hv => absurd hv (none v), rfl⟩, ok_z0, ⟨rfl, fun x hx => absurd hx (none x)⟩, rfl, rfl, Or.inl rfl⟩
  · have h1 : k < 0 := h1
    omega
  · have hk : (k : Int) ≤ 0 := hk
    have e : k = 0 := by omega
    subst e
    refine ⟨fun x hx => absurd hx (none x), fun x y hx => absurd hx (none x), fun x hx => absurd hx (none x), fun x hx hx4 => ?_⟩
    have hx : 0 ≤ x := hx
    show (if 0 ≤ x ∧ x < 40 then x else 0) = x
    rw [if_pos ⟨hx, hx4⟩]
