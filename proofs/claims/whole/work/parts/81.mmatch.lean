/-! matches of the reference -/
def W2 (σ : S0) (M B : Int → Int) : S0 := stR (stR σ 13 M) 15 B
theorem stR_comm (σ : S0) {p q : Nat} (h : p ≠ q) (f g : Int → Int) : stR (stR σ p f) q g = stR (stR σ q g) p f := by
  have e : (fun k => if k = q then g else if k = p then f else σ.2.1 k) = fun k => if k = p then f else if k = q then g else σ.2.1 k := by
    funext k
    by_cases c : k = q
    · have d : k ≠ p := fun z => h (z.symm.trans c)
      rw [if_pos c, if_neg d, if_pos c]
    · rw [if_neg c, if_neg c]
  show (σ.1, (fun k => if k = q then g else if k = p then f else σ.2.1 k), σ.2.2) = (σ.1, (fun k => if k = p then f else if k = q then g else σ.2.1 k), σ.2.2)
  rw [e]
theorem W2_13 (σ : S0) (M B : Int → Int) (i v : Int) : stF (W2 σ M B) 13 i v = W2 σ (ui M i v) B := by
  unfold W2
  rw [stR_comm σ (by decide) M B, stF_stR, stR_comm σ (by decide)]
theorem W2_15 (σ : S0) (M B : Int → Int) (i v : Int) : stF (W2 σ M B) 15 i v = W2 σ M (ui B i v) := stF_stR _ _ _ _ _
def wsv (m : Int) : Int := if m = 0 then 1 else m
def wsh (M : Int → Int) (c i : Int) : Int → Int := if c = -1 then M else ui M i (wsv (M i))
theorem wsh_ne {M : Int → Int} {c i k : Int} (h : M k ≠ 0) : wsh M c i k = M k := by
  unfold wsh
  by_cases e : c = -1
  · rw [if_pos e]
  · rw [if_neg e]
    by_cases d : k = i
    · rw [d, ui_at]
      exact if_neg (d ▸ h)
    · rw [ui_ne _ _ d]
theorem wsh_at {M : Int → Int} {c i : Int} (h : c ≠ -1) : wsh M c i i ≠ 0 := by
  unfold wsh wsv
  rw [if_neg h, ui_at]
  split <;> omega
theorem wsh_new {M : Int → Int} {c i k : Int} (h : wsh M c i k ≠ M k) : c ≠ -1 ∧ k = i ∧ M k = 0 ∧ wsh M c i k = 1 := by
  unfold wsh at h ⊢
  by_cases e : c = -1
  · rw [if_pos e] at h; exact absurd rfl h
  · rw [if_neg e] at h ⊢
    by_cases d : k = i
    · subst d
      rw [ui_at] at h ⊢
      unfold wsv at h ⊢
      by_cases z : M k = 0
      · exact ⟨e, rfl, z, if_pos z⟩
      · rw [if_neg z] at h; exact absurd rfl h
    · rw [ui_ne _ _ d] at h; exact absurd rfl h
theorem wsh_rg {M : Int → Int} {c i : Int} (h : RG M) : RG (wsh M c i) := fun k => by
  unfold wsh wsv
  split
  · exact h k
  · unfold ui
    split
    · split
      · exact ⟨by decide, by decide⟩
      · exact h i
    · exact h k
def cn2 (M : Int → Int) : Int := sm (fun k => bz (M k = 2)) 1600
theorem cn2_le (M : Int → Int) : 0 ≤ cn2 M ∧ cn2 M ≤ 1600 := by
  constructor
  · exact sm_nonneg (fun x _ _ => (bz_01 _).1)
  · have h1 := sm_le (f := fun k => bz (M k = 2)) (g := fun _ => 1) (n := 1600) (fun x _ _ => (bz_01 _).2)
    rw [sm_const] at h1
    unfold cn2
    omega
theorem cn2_wsh (M : Int → Int) (c i : Int) : cn2 (wsh M c i) = cn2 M := sm_congr (fun k _ _ => bz_congr (by
  by_cases e : wsh M c i k = M k
  · rw [e]
  · obtain ⟨-, -, h1, h2⟩ := wsh_new e
    rw [h1, h2]
    omega))
theorem cn2_two {M : Int → Int} {i : Int} (h0 : 0 ≤ i) (h1 : i < 1600) (h : M i = 1) : cn2 M + 1 = cn2 (ui M i 2) := by
  refine sm_dec (i := i) h0 (by omega) (fun k _ _ hk => by rw [ui_ne _ _ hk]) ?_
  show bz (M i = 2) + 1 = bz (ui M i 2 i = 2)
  rw [ui_at, bz_t rfl, bz_f (by omega)]
  rfl
theorem div40 : ∀ k : Nat, k < 1600 → zI (k : Int) / zI 40 = zI ((k / 40 : Nat) : Int) ∧ zI (k : Int) - zI (k : Int) / zI 40 * zI 40 = zI ((k % 40 : Nat) : Int) := by decide +kernel
theorem div40z {k : Int} (h0 : 0 ≤ k) (h1 : k < 1600) : zI k / zI 40 = zI (k / 40) ∧ zI k - zI k / zI 40 * zI 40 = zI (k % 40) := by
  have h := div40 k.toNat (by omega)
  have e1 : ((k.toNat : Nat) : Int) = k := by omega
  have e2 : ((k.toNat / 40 : Nat) : Int) = k / 40 := by omega
  have e3 : ((k.toNat % 40 : Nat) : Int) = k % 40 := by omega
  rw [e1, e2, e3] at h
  exact h
theorem nrw_bz (P : Prop) [Decidable P] : narrow FieldType.boolean (.int (zI (bz P))) = .int (zI (bz P)) := by
  unfold bz
  split <;> rfl
theorem rch_0 (τ : S0) (a b : Int) : Rch τ a b a b := fun _ h _ => h
theorem rch_arg {τ : S0} {a b x y : Int} (h : Rch τ a b x y) (h1 : τ.2.1 12 x ≠ -1) (h2 : τ.2.1 12 x = τ.2.1 12 y) : (τ.2.1 13 x ≠ -1 → Rch τ a b (τ.2.1 13 x) (τ.2.1 13 y)) ∧ (τ.2.1 14 x ≠ -1 → Rch τ a b (τ.2.1 14 x) (τ.2.1 14 y)) :=
  ⟨fun q P p0 p1 => (p1 x y (h P p0 p1) h1 h2).1 q, fun q P p0 p1 => (p1 x y (h P p0 p1) h1 h2).2 q⟩
def DN (τ σ : S0) (M B : Int → Int) (x y : Int) : Prop := (σ.2.1 8 x = -1 ∧ In (τ.1 0) (B (σ.2.1 7 x)) ∧ τ.2.1 11 (B (σ.2.1 7 x)) = τ.2.1 11 y) ∨
  (σ.2.1 8 x ≠ -1 ∧ σ.2.1 8 y ≠ -1 ∧ τ.2.1 5 (σ.2.1 8 x) = τ.2.1 5 (σ.2.1 8 y) ∧ (τ.2.1 6 (σ.2.1 8 x) ≠ -1 → M (40 * τ.2.1 6 (σ.2.1 8 x) + τ.2.1 6 (σ.2.1 8 y)) ≠ 0) ∧ (τ.2.1 7 (σ.2.1 8 x) ≠ -1 → M (40 * τ.2.1 7 (σ.2.1 8 x) + τ.2.1 7 (σ.2.1 8 y)) ≠ 0))
def MI (τ σ : S0) (s0 t0 : Int) (M B : Int → Int) : Prop :=
  (∀ x y, In 40 x → In 40 y → M (40 * x + y) ≠ 0 → In (τ.1 0) x ∧ In (τ.1 0) y ∧ (M (40 * x + y) = 1 ∨ M (40 * x + y) = 2) ∧ Rch τ (τ.2.1 11 s0) (τ.2.1 11 t0) (τ.2.1 11 x) (τ.2.1 11 y)) ∧
  (∀ x y, In (τ.1 0) x → In (τ.1 0) y → M (40 * x + y) = 2 → DN τ σ M B x y) ∧
  (∀ v, In 40 v → B v = -1 ∨ (In (τ.1 0) (B v) ∧ ∃ x, In (τ.1 0) x ∧ σ.2.1 8 x = -1 ∧ σ.2.1 7 x = v ∧ Rch τ (τ.2.1 11 s0) (τ.2.1 11 t0) (τ.2.1 11 x) (τ.2.1 11 (B v)))) ∧
  M (40 * s0 + t0) ≠ 0 ∧ RG M ∧ RG B
theorem dn_mono {τ σ : S0} {M M' B B' : Int → Int} {x y : Int} (h : DN τ σ M B x y) (hM : ∀ k, M k ≠ 0 → M' k ≠ 0) (hB : ∀ v, In (τ.1 0) (B v) → B' v = B v) : DN τ σ M' B' x y := by
  rcases h with ⟨h1, h2, h3⟩ | ⟨h1, h2, h3, h4, h5⟩
  · exact Or.inl ⟨h1, by rw [hB _ h2]; exact h2, by rw [hB _ h2]; exact h3⟩
  · exact Or.inr ⟨h1, h2, h3, fun q => hM _ (h4 q), fun q => hM _ (h5 q)⟩
section MMA
variable {τ σ : S0} {s0 t0 : Int} {M B : Int → Int}
theorem mi_var (h : REL τ σ) (hp : PRE τ σ) (hM : MI τ σ s0 t0 M B) {s t X : Int} (is : In (τ.1 0) s) (it : In (τ.1 0) t) (h1 : M (40 * s + t) = 1) (hv : σ.2.1 8 s = -1) (hX : (B (σ.2.1 7 s) < 0 ∧ X = t) ∨ (0 ≤ B (σ.2.1 7 s) ∧ X = B (σ.2.1 7 s))) (he : τ.2.1 11 X = τ.2.1 11 t) : MI τ σ s0 t0 (ui M (40 * s + t) 2) (ui B (σ.2.1 7 s) X) := by
  obtain ⟨m1, m2, m3, m4, m5, m6⟩ := hM
  obtain ⟨nv, -, -, -⟩ := rel_nv h hp
  have n40 := h.1.1.2.1.2.1
  obtain ⟨g1, -⟩ := nv.2.2.2.2.2.2.1 s is
  have r := (m1 s t ⟨is.1, by omega⟩ ⟨it.1, by omega⟩ (by omega)).2.2.2
  have iX : In (τ.1 0) X := by
    rcases hX with ⟨-, e⟩ | ⟨e1, e2⟩
    · rw [e]; exact it
    · rw [e2]; exact ((m3 _ ⟨g1.1, by omega⟩).resolve_left (fun q => by omega)).1
  have nz : ∀ k, M k ≠ 0 → ui M (40 * s + t) 2 k ≠ 0 := fun k hk => by
    unfold ui
    split
    · decide
    · exact hk
  have bb : ∀ v, In (τ.1 0) (B v) → ui B (σ.2.1 7 s) X v = B v := fun v hv => by
    unfold ui
    by_cases c : v = σ.2.1 7 s
    · rw [if_pos c]
      rcases hX with ⟨e, -⟩ | ⟨-, e⟩
      · rw [← c] at e; omega
      · rw [e, c]
    · rw [if_neg c]
  refine ⟨fun x y hx hy hk => ?_, fun x y hx hy hk => ?_, fun v hv => ?_, nz _ m4, ui_rg m5 ⟨by decide, by decide⟩, ui_rg m6 ⟨by omega, by omega⟩⟩
  · by_cases c : 40 * x + y = 40 * s + t
    · have e1 : x = s := by omega
      have e2 : y = t := by omega
      rw [c, ui_at, e1, e2]
      exact ⟨is, it, Or.inr rfl, r⟩
    · rw [ui_ne _ _ c] at hk ⊢
      exact m1 x y hx hy hk
  · by_cases c : 40 * x + y = 40 * s + t
    · have e1 : x = s := by omega
      have e2 : y = t := by omega
      rw [e1, e2]
      exact Or.inl ⟨hv, by rw [ui_at]; exact iX, by rw [ui_at]; exact he⟩
    · rw [ui_ne _ _ c] at hk
      exact dn_mono (m2 x y hx hy hk) nz bb
  · by_cases c : v = σ.2.1 7 s
    · rw [c, ui_at]
      exact Or.inr ⟨iX, s, is, ‹σ.2.1 8 s = -1›, rfl, by rw [he]; exact r⟩
    · rw [ui_ne _ _ c]
      exact m3 v hv
theorem mi_term (h : REL τ σ) (hp : PRE τ σ) (hM : MI τ σ s0 t0 M B) {s t : Int} (is : In (τ.1 0) s) (it : In (τ.1 0) t) (h1 : M (40 * s + t) = 1) (ha : σ.2.1 8 s ≠ -1) (hb : σ.2.1 8 t ≠ -1) (hk : τ.2.1 5 (σ.2.1 8 s) = τ.2.1 5 (σ.2.1 8 t)) : MI τ σ s0 t0 (wsh (wsh (ui M (40 * s + t) 2) (τ.2.1 6 (σ.2.1 8 s)) (40 * τ.2.1 6 (σ.2.1 8 s) + τ.2.1 6 (σ.2.1 8 t))) (τ.2.1 7 (σ.2.1 8 s)) (40 * τ.2.1 7 (σ.2.1 8 s) + τ.2.1 7 (σ.2.1 8 t))) B := by
  obtain ⟨m1, m2, m3, m4, m5, m6⟩ := hM
  obtain ⟨nv, hv, -, -⟩ := rel_nv h hp
  have T := h.1.1.2.1
  have n40 := T.2.1
  have r := (m1 s t ⟨is.1, by omega⟩ ⟨it.1, by omega⟩ (by omega)).2.2.2
  obtain ⟨a2, a3, a4, a5, a6⟩ := (nv_all nv hv is).2.resolve_left (fun z => ha z.1)
  obtain ⟨b2, b3, b4, b5, b6⟩ := (nv_all nv hv it).2.resolve_left (fun z => hb z.1)
  have fe := T.fa_eq a2 b2 a3 hk
  have ra := rch_arg r (by rw [a4]; exact a3) (by rw [a4, b4, hk])
  have ka : τ.2.1 6 (σ.2.1 8 s) ≠ -1 → In (τ.1 0) (τ.2.1 6 (σ.2.1 8 s)) ∧ In (τ.1 0) (τ.2.1 6 (σ.2.1 8 t)) ∧ Rch τ (τ.2.1 11 s0) (τ.2.1 11 t0) (τ.2.1 11 (τ.2.1 6 (σ.2.1 8 s))) (τ.2.1 11 (τ.2.1 6 (σ.2.1 8 t))) := fun q => by
    have q' : τ.2.1 6 (σ.2.1 8 t) ≠ -1 := fun z => q (fe.1.mpr z)
    have x1 : τ.2.1 13 (τ.2.1 11 s) = τ.2.1 11 (τ.2.1 6 (σ.2.1 8 s)) := a5.trans (if_neg q)
    have x2 : τ.2.1 13 (τ.2.1 11 t) = τ.2.1 11 (τ.2.1 6 (σ.2.1 8 t)) := b5.trans (if_neg q')
    have i1 := T.fa_in a2 q
    refine ⟨i1, T.fa_in b2 q', ?_⟩
    rw [← x1, ← x2]
    exact ra.1 (by rw [x1]; exact hv _ i1)
  have kb : τ.2.1 7 (σ.2.1 8 s) ≠ -1 → In (τ.1 0) (τ.2.1 7 (σ.2.1 8 s)) ∧ In (τ.1 0) (τ.2.1 7 (σ.2.1 8 t)) ∧ Rch τ (τ.2.1 11 s0) (τ.2.1 11 t0) (τ.2.1 11 (τ.2.1 7 (σ.2.1 8 s))) (τ.2.1 11 (τ.2.1 7 (σ.2.1 8 t))) := fun q => by
    have q' : τ.2.1 7 (σ.2.1 8 t) ≠ -1 := fun z => q (fe.2.mpr z)
    have x1 : τ.2.1 14 (τ.2.1 11 s) = τ.2.1 11 (τ.2.1 7 (σ.2.1 8 s)) := a6.trans (if_neg q)
    have x2 : τ.2.1 14 (τ.2.1 11 t) = τ.2.1 11 (τ.2.1 7 (σ.2.1 8 t)) := b6.trans (if_neg q')
    have i1 := T.sa_in a2 q
    refine ⟨i1, T.sa_in b2 q', ?_⟩
    rw [← x1, ← x2]
    exact ra.2 (by rw [x1]; exact hv _ i1)
  generalize eM1 : ui M (40 * s + t) 2 = M1
  generalize eM2 : wsh M1 (τ.2.1 6 (σ.2.1 8 s)) (40 * τ.2.1 6 (σ.2.1 8 s) + τ.2.1 6 (σ.2.1 8 t)) = M2
  generalize eM3 : wsh M2 (τ.2.1 7 (σ.2.1 8 s)) (40 * τ.2.1 7 (σ.2.1 8 s) + τ.2.1 7 (σ.2.1 8 t)) = M3
  have z1 : ∀ k, M k ≠ 0 → M1 k ≠ 0 := fun k hk => by
    rw [← eM1]
    unfold ui
    split
    · decide
    · exact hk
  have z2 : ∀ k, M1 k ≠ 0 → M2 k = M1 k := fun k hk => by rw [← eM2]; exact wsh_ne hk
  have z3 : ∀ k, M2 k ≠ 0 → M3 k = M2 k := fun k hk => by rw [← eM3]; exact wsh_ne hk
  have nz2 : ∀ k, M1 k ≠ 0 → M3 k ≠ 0 := fun k hk => by
    have e := z2 k hk
    rw [z3 k (by rw [e]; exact hk), e]
    exact hk
  have nz : ∀ k, M k ≠ 0 → M3 k ≠ 0 := fun k hk => nz2 k (z1 k hk)
  have key : ∀ x y, In 40 x → In 40 y → M3 (40 * x + y) ≠ 0 → (M3 (40 * x + y) = M (40 * x + y) ∧ 40 * x + y ≠ 40 * s + t ∧ M (40 * x + y) ≠ 0) ∨ (In (τ.1 0) x ∧ In (τ.1 0) y ∧ (M3 (40 * x + y) = 1 ∨ (M3 (40 * x + y) = 2 ∧ x = s ∧ y = t)) ∧ Rch τ (τ.2.1 11 s0) (τ.2.1 11 t0) (τ.2.1 11 x) (τ.2.1 11 y)) := fun x y hx hy hne => by
    by_cases c3 : M3 (40 * x + y) = M2 (40 * x + y)
    · by_cases c2 : M2 (40 * x + y) = M1 (40 * x + y)
      · by_cases c1 : 40 * x + y = 40 * s + t
        · have e1 : x = s := by omega
          have e2 : y = t := by omega
          right
          rw [c3, c2, ← eM1, c1, ui_at, e1, e2]
          exact ⟨is, it, Or.inr ⟨rfl, rfl, rfl⟩, r⟩
        · left
          have e : M1 (40 * x + y) = M (40 * x + y) := by rw [← eM1, ui_ne _ _ c1]
          exact ⟨by rw [c3, c2, e], c1, by rw [← e, ← c2, ← c3]; exact hne⟩
      · rw [← eM2] at c2
        obtain ⟨d1, d2, d3, d4⟩ := wsh_new c2
        obtain ⟨i1, i2, i3⟩ := ka d1
        have e1 : x = τ.2.1 6 (σ.2.1 8 s) := by omega
        have e2 : y = τ.2.1 6 (σ.2.1 8 t) := by omega
        rw [eM2] at d4
        right
        rw [c3, e1, e2]
        rw [e1, e2] at d4
        exact ⟨i1, i2, Or.inl d4, i3⟩
    · rw [← eM3] at c3
      obtain ⟨d1, d2, d3, d4⟩ := wsh_new c3
      obtain ⟨i1, i2, i3⟩ := kb d1
      have e1 : x = τ.2.1 7 (σ.2.1 8 s) := by omega
      have e2 : y = τ.2.1 7 (σ.2.1 8 t) := by omega
      rw [eM3] at d4
      right
      rw [e1, e2] at d4 ⊢
      exact ⟨i1, i2, Or.inl d4, i3⟩
  refine ⟨fun x y hx hy hne => ?_, fun x y hx hy h2 => ?_, m3, nz _ m4, ?_, m6⟩
  · rcases key x y hx hy hne with ⟨k1, -, k2⟩ | ⟨k1, k2, k3, k4⟩
    · rw [k1]
      exact m1 x y hx hy k2
    · exact ⟨k1, k2, k3.imp id (fun q => q.1), k4⟩
  · rcases key x y ⟨hx.1, by omega⟩ ⟨hy.1, by omega⟩ (by omega) with ⟨k1, -, k2⟩ | ⟨k1, k2, k3, k4⟩
    · exact dn_mono (m2 x y hx hy (by rw [← k1]; exact h2)) nz (fun _ _ => rfl)
    · obtain ⟨-, e1, e2⟩ := k3.resolve_left (fun q => by omega)
      rw [e1, e2]
      refine Or.inr ⟨ha, hb, hk, fun q => ?_, fun q => ?_⟩
      · have w := wsh_at (M := M1) (i := 40 * τ.2.1 6 (σ.2.1 8 s) + τ.2.1 6 (σ.2.1 8 t)) q
        rw [eM2] at w
        rw [z3 _ w]
        exact w
      · have w := wsh_at (M := M2) (i := 40 * τ.2.1 7 (σ.2.1 8 s) + τ.2.1 7 (σ.2.1 8 t)) q
        rw [eM3] at w
        exact w
  · rw [← eM3, ← eM2, ← eM1]
    exact wsh_rg (wsh_rg (ui_rg m5 ⟨by decide, by decide⟩))
/-- no match: two terms for one variable -/
theorem no_var (h : REL τ σ) (hp : PRE τ σ) (hM : MI τ σ s0 t0 M B) {s t : Int} (is : In (τ.1 0) s) (it : In (τ.1 0) t) (h1 : M (40 * s + t) = 1) (hv : σ.2.1 8 s = -1) (hB : 0 ≤ B (σ.2.1 7 s)) (he : τ.2.1 11 (B (σ.2.1 7 s)) ≠ τ.2.1 11 t) : ¬ MatchOK τ (τ.2.1 11 s0) (τ.2.1 11 t0) := fun q => by
  obtain ⟨m1, m2, m3, m4, m5, m6⟩ := hM
  obtain ⟨nv, hvv, -, -⟩ := rel_nv h hp
  have n40 := h.1.1.2.1.2.1
  obtain ⟨g1, -⟩ := nv.2.2.2.2.2.2.1 s is
  have r := (m1 s t ⟨is.1, by omega⟩ ⟨it.1, by omega⟩ (by omega)).2.2.2
  obtain ⟨-, x, x1, x2, x3, x4⟩ := (m3 _ ⟨g1.1, by omega⟩).resolve_left (fun q => by omega)
  rw [nv.2.2.2.1 x s x1 is x3] at x4
  have w12 : τ.2.1 12 (τ.2.1 11 s) = -1 := by
    rcases (nv_all nv hvv is).2 with ⟨-, z⟩ | ⟨z, -⟩
    · exact z
    · omega
  exact he (q.2 _ _ _ x4 r w12)
theorem no_term (h : REL τ σ) (hp : PRE τ σ) (hM : MI τ σ s0 t0 M B) {s t : Int} (is : In (τ.1 0) s) (it : In (τ.1 0) t) (h1 : M (40 * s + t) = 1) (ha : σ.2.1 8 s ≠ -1) (hb : σ.2.1 8 t = -1 ∨ τ.2.1 5 (σ.2.1 8 s) ≠ τ.2.1 5 (σ.2.1 8 t)) : ¬ MatchOK τ (τ.2.1 11 s0) (τ.2.1 11 t0) := fun q => by
  obtain ⟨m1, m2, m3, m4, m5, m6⟩ := hM
  obtain ⟨nv, hv, -, -⟩ := rel_nv h hp
  have n40 := h.1.1.2.1.2.1
  have r := (m1 s t ⟨is.1, by omega⟩ ⟨it.1, by omega⟩ (by omega)).2.2.2
  obtain ⟨a2, a3, a4, -, -⟩ := (nv_all nv hv is).2.resolve_left (fun z => ha z.1)
  have q1 := q.1 _ _ r
  rw [a4] at q1
  rcases (nv_all nv hv it).2 with ⟨b1, b2⟩ | ⟨b1, b2, b3, -⟩
  · rw [b2] at q1
    rcases q1 with q1 | q1 <;> exact a3 q1
  · rw [b3] at q1
    rcases hb with hb | hb
    · omega
    · rcases q1 with q1 | q1
      · exact a3 q1
      · exact hb q1
/-- all pairs met -/
theorem mi_end (h : REL τ σ) (hp : PRE τ σ) (hM : MI τ σ s0 t0 M B) (hs : In (τ.1 0) s0) (ht : In (τ.1 0) t0) (hno : ∀ k, 0 ≤ k → k < 1600 → M k ≠ 1) : MatchOK τ (τ.2.1 11 s0) (τ.2.1 11 t0) := by
  obtain ⟨m1, m2, m3, m4, m5, m6⟩ := hM
  obtain ⟨nv, hv, -, -⟩ := rel_nv h hp
  have T := h.1.1.2.1
  have n40 := T.2.1
  have dn : ∀ x y, In (τ.1 0) x → In (τ.1 0) y → M (40 * x + y) ≠ 0 → DN τ σ M B x y := fun x y hx hy hne => by
    have q := (m1 x y ⟨hx.1, by omega⟩ ⟨hy.1, by omega⟩ hne).2.2.1.resolve_left (hno _ (by omega) (by omega))
    exact m2 x y hx hy q
  have all : ∀ p q, Rch τ (τ.2.1 11 s0) (τ.2.1 11 t0) p q → ∃ x y, In (τ.1 0) x ∧ In (τ.1 0) y ∧ τ.2.1 11 x = p ∧ τ.2.1 11 y = q ∧ M (40 * x + y) ≠ 0 := fun p q hr => by
    refine hr (fun p q => ∃ x y, In (τ.1 0) x ∧ In (τ.1 0) y ∧ τ.2.1 11 x = p ∧ τ.2.1 11 y = q ∧ M (40 * x + y) ≠ 0) ⟨s0, t0, hs, ht, rfl, rfl, m4⟩ (fun p q hpq k1 k2 => ?_)
    obtain ⟨x, y, hx, hy, rfl, rfl, hne⟩ := hpq
    rcases dn x y hx hy hne with ⟨d1, -⟩ | ⟨d1, d2, d3, d4, d5⟩
    · rcases (nv_all nv hv hx).2 with ⟨-, z⟩ | ⟨z, -⟩
      · exact absurd z k1
      · omega
    · obtain ⟨a2, a3, a4, a5, a6⟩ := (nv_all nv hv hx).2.resolve_left (fun z => d1 z.1)
      obtain ⟨b2, b3, b4, b5, b6⟩ := (nv_all nv hv hy).2.resolve_left (fun z => d2 z.1)
      have fe := T.fa_eq a2 b2 a3 d3
      refine ⟨fun q => ?_, fun q => ?_⟩
      · by_cases c : τ.2.1 6 (σ.2.1 8 x) = -1
        · exact absurd (a5.trans (if_pos c)) q
        · have c' : τ.2.1 6 (σ.2.1 8 y) ≠ -1 := fun z => c (fe.1.mpr z)
          exact ⟨_, _, T.fa_in a2 c, T.fa_in b2 c', (a5.trans (if_neg c)).symm, (b5.trans (if_neg c')).symm, d4 c⟩
      · by_cases c : τ.2.1 7 (σ.2.1 8 x) = -1
        · exact absurd (a6.trans (if_pos c)) q
        · have c' : τ.2.1 7 (σ.2.1 8 y) ≠ -1 := fun z => c (fe.2.mpr z)
          exact ⟨_, _, T.sa_in a2 c, T.sa_in b2 c', (a6.trans (if_neg c)).symm, (b6.trans (if_neg c')).symm, d5 c⟩
  refine ⟨fun p q hr => ?_, fun p q q' hr hr' hk => ?_⟩
  · obtain ⟨x, y, hx, hy, rfl, rfl, hne⟩ := all p q hr
    rcases dn x y hx hy hne with ⟨d1, -⟩ | ⟨d1, d2, d3, -⟩
    · rcases (nv_all nv hv hx).2 with ⟨-, z⟩ | ⟨z, -⟩
      · exact Or.inl z
      · omega
    · obtain ⟨a2, a3, a4, -⟩ := (nv_all nv hv hx).2.resolve_left (fun z => d1 z.1)
      obtain ⟨b2, b3, b4, -⟩ := (nv_all nv hv hy).2.resolve_left (fun z => d2 z.1)
      exact Or.inr (by rw [a4, b4, d3])
  · obtain ⟨x, y, hx, hy, rfl, rfl, hne⟩ := all p q hr
    obtain ⟨x', y', hx', hy', e, rfl, hne'⟩ := all _ q' hr'
    have hh : ∀ z, In (τ.1 0) z → τ.2.1 12 (τ.2.1 11 z) = -1 → σ.2.1 8 z = -1 := fun z hz k => by
      rcases (nv_all nv hv hz).2 with ⟨w, -⟩ | ⟨-, w2, w3, -⟩
      · exact w
      · rw [k] at w3
        exact absurd w3.symm w2
    have h1 := hh x hx hk
    have h2 := hh x' hx' (by rw [e]; exact hk)
    have eg := nv.2.2.2.2.1 x' x hx' hx h2 h1 e
    rcases dn x y hx hy hne with ⟨-, -, d3⟩ | ⟨d1, -⟩
    · rcases dn x' y' hx' hy' hne' with ⟨-, -, d3'⟩ | ⟨d1, -⟩
      · rw [eg] at d3'
        rw [← d3, ← d3']
      · exact absurd h2 d1
    · exact absurd h1 d1
end MMA
theorem mi_start {τ σ : S0} {s t : Int} {M B : Int → Int} (n40 : τ.1 0 ≤ 40) (is : In (τ.1 0) s) (it : In (τ.1 0) t) (hM : RG M) (hB : RG B) (h0 : ∀ i, In 1600 i → M i = 0) (hb : ∀ i, In 40 i → B i = -1) : MI τ σ s t (ui M (40 * s + t) (wsv (M (40 * s + t)))) B := by
  have e : wsv (M (40 * s + t)) = 1 := if_pos (h0 _ ⟨by omega, by omega⟩)
  rw [e]
  have key : ∀ x y, In 40 x → In 40 y → ui M (40 * s + t) 1 (40 * x + y) ≠ 0 → x = s ∧ y = t := fun x y hx hy hk => by
    by_cases c : 40 * x + y = 40 * s + t
    · omega
    · rw [ui_ne _ _ c] at hk
      exact absurd (h0 _ ⟨by omega, by omega⟩) hk
  refine ⟨fun x y hx hy hk => ?_, fun x y hx hy hk => ?_, fun v hv => Or.inl (hb v hv), by rw [ui_at]; decide, ui_rg hM ⟨by decide, by decide⟩, hB⟩
  · obtain ⟨rfl, rfl⟩ := key x y hx hy hk
    rw [ui_at]
    exact ⟨is, it, Or.inl rfl, rch_0 _ _ _⟩
  · obtain ⟨rfl, rfl⟩ := key x y ⟨hx.1, by omega⟩ ⟨hy.1, by omega⟩ (by omega)
    rw [ui_at] at hk
    omega
theorem rel_W2 {τ σ : S0} {M B : Int → Int} (h : REL τ σ) (hM : RG M) (hB : RG B) : REL τ (W2 σ M B) := by
  obtain ⟨h1, h2, h3, h4, h5, h6⟩ := h
  exact ⟨h1, ok_stR (ok_stR h2 hM) hB, h3, h4, h5, h6⟩
