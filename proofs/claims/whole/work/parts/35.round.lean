/-! rounds of settling -/
/-- what settling leaves alone -/
def FRv (σ τ : S0) : Prop := τ.1 0 = σ.1 0 ∧ τ.1 1 = σ.1 1 ∧ τ.1 2 = σ.1 2 ∧ τ.1 5 = σ.1 5 ∧ (∀ j, j < 11 ∨ 16 < j → τ.2.1 j = σ.2.1 j) ∧ (∀ j, j < 17 ∨ 18 < j → τ.2.2 j = σ.2.2 j)
theorem FRv.rfl {σ : S0} : FRv σ σ := ⟨_root_.rfl, _root_.rfl, _root_.rfl, _root_.rfl, fun _ _ => _root_.rfl, fun _ _ => _root_.rfl⟩
theorem FRv.trans {σ τ υ : S0} (h : FRv σ τ) (g : FRv τ υ) : FRv σ υ :=
  ⟨g.1.trans h.1, g.2.1.trans h.2.1, g.2.2.1.trans h.2.2.1, g.2.2.2.1.trans h.2.2.2.1, fun j q => (g.2.2.2.2.1 j q).trans (h.2.2.2.2.1 j q), fun j q => (g.2.2.2.2.2 j q).trans (h.2.2.2.2.2 j q)⟩
theorem frv_F {σ : S0} {q : Nat} {i v : Int} (h : 10 < q ∧ q < 17) : FRv σ (stF σ q i v) :=
  ⟨_root_.rfl, _root_.rfl, _root_.rfl, _root_.rfl, fun j hj => stR_ne σ _ (by omega), fun _ _ => _root_.rfl⟩
theorem frv_L {σ : S0} {q : Nat} {i v : Int} (h : 16 < q ∧ q < 19) : FRv σ (stL σ q i v) :=
  ⟨_root_.rfl, _root_.rfl, _root_.rfl, _root_.rfl, fun _ _ => _root_.rfl, fun j hj => by
    show (if j = q then _ else σ.2.2 j) = σ.2.2 j
    rw [if_neg (by omega)]⟩
theorem frv_I {σ : S0} {q : Nat} {v : Int} (h : 2 < q ∧ q < 5) : FRv σ (stI σ q v) :=
  ⟨uq_ne _ _ (by omega), uq_ne _ _ (by omega), uq_ne _ _ (by omega), uq_ne _ _ (by omega), fun _ _ => _root_.rfl, fun _ _ => _root_.rfl⟩
theorem frv_adv {τ : S0} {k a b : Int} : FRv τ (adv τ k a b) := by
  unfold adv
  refine FRv.trans ?_ (frv_I (by omega))
  refine FRv.trans ?_ (frv_F (by omega))
  refine FRv.trans ?_ (frv_L (by omega))
  refine FRv.trans ?_ (frv_F (by omega))
  refine FRv.trans ?_ (frv_L (by omega))
  refine FRv.trans ?_ (frv_F (by omega))
  refine FRv.trans ?_ (frv_F (by omega))
  exact frv_F (by omega)
theorem frv_adw {τ : S0} : FRv τ (adw τ) := by
  unfold adw
  refine FRv.trans ?_ (frv_I (by omega))
  refine FRv.trans ?_ (frv_L (by omega))
  exact frv_adv
/-- behind x nodes of a round c classes have got their values -/
def RJ (n : Int) (kd fa sa row : Int → Int) (σ : S0) (x c : Int) (τ : S0) : Prop := SI n kd fa sa row τ ∧ FRv σ τ ∧ Ok τ ∧ stl n row τ = stl n row σ + c ∧ 0 ≤ c ∧ (c = 0 → τ = σ ∧ ∀ y, In x y → row y = y → σ.2.1 11 y = -1 → ¬ HA fa sa row σ y)
theorem rj_0 {n : Int} {kd fa sa row : Int → Int} {σ : S0} (h : SI n kd fa sa row σ) (hs : Ok σ) : RJ n kd fa sa row σ 0 0 σ := ⟨h, FRv.rfl, hs, by omega, by omega, fun _ => ⟨rfl, fun y hy => by omega⟩⟩
theorem rj_skip {n : Int} {kd fa sa row : Int → Int} {σ τ : S0} {x c : Int} (h : RJ n kd fa sa row σ x c τ) (hno : ¬ (row x = x ∧ τ.2.1 11 x = -1 ∧ HA fa sa row τ x)) : RJ n kd fa sa row σ (x + 1) c τ := by
  obtain ⟨h1, h2, h3, h4, h5, h6⟩ := h
  refine ⟨h1, h2, h3, h4, h5, fun q => ⟨(h6 q).1, fun y hy r1 r2 r3 => ?_⟩⟩
  by_cases e : y = x
  · have e2 := (h6 q).1
    subst e2
    subst e
    exact hno ⟨r1, r2, r3⟩
  · exact (h6 q).2 y ⟨hy.1, by omega⟩ r1 r2 r3
theorem rj_set {n : Int} {kd fa sa row : Int → Int} {σ τ u : S0} {x c : Int} (h : RJ n kd fa sa row σ x c τ) (hu : SI n kd fa sa row u ∧ stl n row u = stl n row τ + 1) (hf : FRv τ u) (ho : Ok u) : RJ n kd fa sa row σ (x + 1) (c + 1) u := by
  obtain ⟨h1, h2, h3, h4, h5, h6⟩ := h
  exact ⟨hu.1, h2.trans hf, ho, by omega, by omega, fun q => by omega⟩
theorem stl_le {n : Int} (hn : 0 ≤ n) (row : Int → Int) (τ : S0) : 0 ≤ stl n row τ ∧ stl n row τ ≤ reps row n := by
  constructor
  · exact sm_nonneg (fun x _ _ => (bz_01 _).1)
  · refine sm_le (fun x _ _ => ?_)
    by_cases h : row x = x ∧ τ.2.1 11 x ≠ -1
    · rw [bz_t h, bz_t h.1]
      omega
    · rw [bz_f h]
      exact (bz_01 _).1
/-- an unsettled class is left: fewer values than nodes -/
theorem stl_lt {n : Int} {row : Int → Int} {τ : S0} {x : Int} (hx : In n x) (hr : row x = x) (h : τ.2.1 11 x = -1) : stl n row τ + 1 ≤ reps row n := by
  have h1 := sm_le (f := fun y => bz (row y = y ∧ τ.2.1 11 y ≠ -1)) (g := fun y => if y = x then bz (row y = y) - 1 else bz (row y = y)) (n := n.toNat) (fun y _ _ => by
    try dsimp only
    by_cases e : y = x
    · subst e
      rw [if_pos rfl, bz_t hr, bz_f (fun q => q.2 h)]
      omega
    · rw [if_neg e]
      by_cases q : row y = y ∧ τ.2.1 11 y ≠ -1
      · rw [bz_t q, bz_t q.1]
        omega
      · rw [bz_f q]
        exact (bz_01 _).1)
  have h2 := sm_dec (f := fun y => if y = x then bz (row y = y) - 1 else bz (row y = y)) (g := fun y => bz (row y = y)) (i := x) (n := n.toNat) hx.1 (by omega) (fun y _ _ e => if_neg e) (by simp)
  unfold stl reps
  omega
theorem stl_all {n : Int} {row : Int → Int} {τ : S0} (h : reps row n ≤ stl n row τ) {x : Int} (hx : In n x) (hr : row x = x) : τ.2.1 11 x ≠ -1 := fun e => by
  have := stl_lt (τ := τ) hx hr e
  omega
