/-! solving -/
def FS (σ u : S0) : Prop := u.1 = σ.1 ∧ (∀ j, j < 7 ∨ 12 ≤ j → u.2.1 j = σ.2.1 j) ∧ u.2.2 14 = σ.2.2 14
theorem FS.rfl {σ : S0} : FS σ σ := ⟨_root_.rfl, fun _ _ => _root_.rfl, _root_.rfl⟩
theorem fs_R {σ u : S0} {q : Nat} {g : Int → Int} (h : FS σ u) (h1 : 7 ≤ q) (h2 : q < 12) : FS σ (stR u q g) := ⟨h.1, fun j hj => by rw [stR_ne _ _ (by omega)]; exact h.2.1 j hj, h.2.2⟩
theorem fs_L {σ u : S0} {q : Nat} {i v : Int} (h : FS σ u) (h1 : q ≠ 14) : FS σ (stL u q i v) := ⟨h.1, h.2.1, by rw [stL_ne _ _ _ (Ne.symm h1)]; exact h.2.2⟩
theorem fs_ln {σ τ u : S0} {s Z D M : Int} (h : FS σ τ) (hl : LN τ u s Z D M) : FS σ u := ⟨hl.1.trans h.1, fun j hj => (hl.2.1 j (by omega)).trans (h.2.1 j hj), (hl.2.2.2.1 14 (by decide) (by decide)).trans h.2.2⟩
theorem rt_fs {σ u : S0} {n : Int} {kd fa sa : Int → Int} (h : RT σ n kd fa sa) (hf : FS σ u) : RT u n kd fa sa := by
  unfold RT
  rw [hf.1, hf.2.1 1 (by omega), hf.2.1 2 (by omega), hf.2.1 3 (by omega), hf.2.1 4 (by omega)]
  exact h
theorem lw_id {n : Int} {g : Int → Int} {R : Int → Int → Prop} (hR : Eqv R) (h : ∀ y, In n y → g y = y) : LW n g R := by
  refine ⟨fun x hx => ?_, fun x hx => by rw [h x hx]; exact Int.le_refl _, fun x y hx hy e => ?_⟩
  · rw [h x hx]
    exact ⟨hx, h x hx, fun q => q⟩
  · rw [h x hx, h y hy] at e
    rw [e]
    exact hR.1 y
theorem clash_no {n : Int} {kd fa sa g : Int → Int} {R : Int → Int → Prop} (hc : CLO n kd fa sa g) (hq : ∀ x y, In n x → In n y → (g x = g y ↔ R x y)) : ¬ Clash n kd R := by
  rintro ⟨x, y, hx, hy, hr, h1, h2, h3⟩
  exact h3 (hc x y hx hy ((hq x y hx hy).mpr hr) h1 h2).1
def cn (n : Int) (u : S0) : Int := sm (fun x => bz (0 < u.2.2 9 x)) n.toNat
theorem cn_le {n : Int} (hn : 0 ≤ n) (u : S0) : 0 ≤ cn n u ∧ cn n u ≤ n := by
  constructor
  · exact sm_nonneg (fun x _ _ => (bz_01 _).1)
  · have h1 := sm_le (f := fun x => bz (0 < u.2.2 9 x)) (g := fun _ => 1) (n := n.toNat) (fun x _ _ => (bz_01 _).2)
    rw [sm_const] at h1
    unfold cn
    omega
abbrev RR (σ : S0) (kd fa sa : Int → Int) : Int → Int → Prop := clo (σ.1 2) kd fa sa (σ.2.1 5) (σ.2.1 6) (σ.1 3)
def SolH (σ : S0) (kd fa sa row : Int → Int) (w : S0) (val : Int → Int) : Prop := Clash (σ.1 2) kd (RR σ kd fa sa) ∨ (RowC (σ.1 2) kd fa sa row (RR σ kd fa sa) ∧ KV (σ.1 2) kd fa sa row w val)
/-- behind solving: the values are found -/
def SOL (u : S0) (kd fa sa : Int → Int) (w : S0) (val : Int → Int) : Prop := NVAL (u.1 2) kd fa sa (u.2.1 7) (u.2.1 8) w val ∧ ∀ x, In (u.1 2) x → KN (u.1 2) (u.2.1 7) (u.2.1 8) w val u x ∧ (0 < u.2.2 9 x ↔ val x ≠ -1)
def SolP (σ : S0) (kd fa sa row : Int → Int) (w : S0) (val : Int → Int) (z : Int) (u : S0) : Prop := FS σ u ∧ Ok u ∧ ((z = 1 ∧ Clash (σ.1 2) kd (RR σ kd fa sa)) ∨ (¬ Clash (σ.1 2) kd (RR σ kd fa sa) ∧ RowC (σ.1 2) kd fa sa row (RR σ kd fa sa) ∧ (∀ x y, In (σ.1 2) x → In (σ.1 2) y → (u.2.1 7 x = u.2.1 7 y ↔ RR σ kd fa sa x y)) ∧ SOL u kd fa sa w val ∧ ((z = 0 ∧ ∀ x, In (σ.1 2) x → val x ≠ -1) ∨ (z = 2 ∧ ∃ x, In (σ.1 2) x ∧ val x = -1))))
/-- the state while learning -/
def LRN (σ u0 u : S0) (kd fa sa : Int → Int) (w : S0) (val : Int → Int) : Prop := FS σ u ∧ Ok u ∧ u.2.1 7 = u0.2.1 7 ∧ u.2.1 8 = u0.2.1 8 ∧ ∀ y, In (σ.1 2) y → KN (σ.1 2) (u0.2.1 7) (u0.2.1 8) w val u y
theorem lrn_step {σ u0 u u' : S0} {kd fa sa : Int → Int} {w : S0} {val : Int → Int} {s Z D M : Int} (h : LRN σ u0 u kd fa sa w val) (hl : LN u u' s Z D M) (ho : Ok u') (hk : ∀ y, In (σ.1 2) y → KN (σ.1 2) (u.2.1 7) (u.2.1 8) w val u' y) : LRN σ u0 u' kd fa sa w val := by
  obtain ⟨h1, h2, h3, h4, h5⟩ := h
  rw [h3, h4] at hk
  exact ⟨fs_ln h1 hl, ho, (hl.2.1 7 (by decide)).trans h3, (hl.2.1 8 (by decide)).trans h4, hk⟩
