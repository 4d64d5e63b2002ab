/-! merging and comparing: the steps -/
theorem mv_rg {row : Int → Int} {p q x : Int} (h : RG row) (hq : Rg q) : RG (mvF row p q x) := fun i => by
  unfold mvF
  split
  · exact hq
  · exact h i
theorem ui_rg {h : Int → Int} {x v : Int} (hh : RG h) (hv : Rg v) : RG (ui h x v) := fun i => by
  unfold ui
  split
  · exact hv
  · exact hh i
theorem stF_stR (σ : S0) (q : Nat) (h : Int → Int) (i v : Int) : stF (stR σ q h) q i v = stR σ q (ui h i v) := by
  unfold stF
  rw [stR_at, stR_stR]
theorem ui_self (g : Int → Int) (x : Int) : ui g x (g x) = g := by
  funext j
  unfold ui
  by_cases e : j = x
  · rw [if_pos e, e]
  · rw [if_neg e]
theorem mst_ne {σ : S0} {row : Int → Int} {p q x : Int} (h : row x ≠ p) : stF (stR σ 7 (mvF row p q x)) 7 x ((stR σ 7 (mvF row p q x)).2.1 7 x) = stR σ 7 (mvF row p q (x + 1)) := by
  rw [stF_stR, stR_at, ui_self, mvF_ne h]
theorem mst_eq {σ : S0} {row : Int → Int} {p q x : Int} (h0 : 0 ≤ x) (h : row x = p) : stF (stR σ 7 (mvF row p q x)) 7 x q = stR σ 7 (mvF row p q (x + 1)) := by
  rw [stF_stR, mvF_eq h0 h]
theorem vmm {a b : Int} : vmin a b = vmax a b ↔ a = b := by
  unfold vmin vmax
  split <;> omega
theorem vmin_rg {a b : Int} (ha : Rg a) (hb : Rg b) : Rg (vmin a b) := by
  unfold vmin
  split <;> assumption
theorem vmax_rg {a b : Int} (ha : Rg a) (hb : Rg b) : Rg (vmax a b) := by
  unfold vmax
  split <;> assumption
theorem cmp_m {n : Int} {R : Int → Int → Prop} {σ : S0} {g0 g' : Int → Int} {d a b z : Int} {u : S0} (hR : Eqv R) (hW : CW n R g0 g' d) (ha : In n a) (hb : In n b) (hab : R a b) (hp : bz (g' a ≠ g' b) = z ∧ stR (stR σ 7 g') 7 (mg g' a b n) = u) : ∃ g1, stR σ 7 g1 = u ∧ CW n R g' g1 z ∧ g1 a = g1 b ∧ (z = 0 ∨ z = 1) := by
  obtain ⟨rfl, rfl⟩ := hp
  refine ⟨_, (stR_stR _ _ _ _).symm, cs_mg hR hW.1 hW.2.1 ha hb hab, (mg_ok hR hW.1 ha hb hab).2.1, ?_⟩
  have := bz_01 (g' a ≠ g' b)
  omega
def QP (n : Int) (kd fa sa g : Int → Int) (s t : Int) : Prop := ∀ x y, In n x → In n y → x < y → (x < s ∨ (x = s ∧ y < t)) → C1 kd fa sa g x y
theorem qp_next {n : Int} {kd fa sa g : Int → Int} {s t : Int} (h : QP n kd fa sa g s t) (h1 : C1 kd fa sa g s t) : QP n kd fa sa g s (t + 1) := fun x y hx hy hlt ho => by
  by_cases c : x = s ∧ y = t
  · rw [c.1, c.2]; exact h1
  · exact h x y hx hy hlt (by omega)
theorem qp_row {n : Int} {kd fa sa g : Int → Int} {s : Int} (h : QP n kd fa sa g s n) : QP n kd fa sa g (s + 1) 0 := fun x y hx hy hlt ho => h x y hx hy hlt (by omega)
theorem qp_col {n : Int} {kd fa sa g : Int → Int} {s : Int} (h : QP n kd fa sa g s 0) : QP n kd fa sa g s (s + 1) := fun x y hx hy hlt ho => h x y hx hy hlt (by omega)
/-- what compare tells -/
def CPost (σ : S0) (n : Int) (kd fa sa : Int → Int) (R : Int → Int → Prop) (z : Int) (u : S0) : Prop := ∃ g, stR σ 7 g = u ∧ RG g ∧ LW n g R ∧ (∀ x y, In n x → In n y → σ.2.1 7 x = σ.2.1 7 y → g x = g y) ∧ reps g n ≤ reps (σ.2.1 7) n ∧
  ((z = -1 ∧ Clash n kd R) ∨ (z = 0 ∧ g = σ.2.1 7 ∧ CLO n kd fa sa g) ∨ (z = 1 ∧ reps g n < reps (σ.2.1 7) n))
theorem cw_reps {n : Int} {R : Int → Int → Prop} {g g' : Int → Int} {v : Int} (h : CW n R g g' v) : reps g' n ≤ reps g n := by
  rcases h.2.2.2 with ⟨-, e⟩ | ⟨-, e⟩
  · rw [e]; exact Int.le_refl _
  · omega
/-- a class's shape -/
def SH1 (n : Int) (kd g : Int → Int) (m v x : Int) : Prop := (v = -1 ∧ ∀ t, In m t → g t = g x → kd t = -1) ∨ (In n v ∧ g v = g x ∧ kd v ≠ -1)
theorem sh_no {n : Int} {kd g : Int → Int} {t v x : Int} (h : SH1 n kd g t v x) (hn : g t = g x → kd t = -1) : SH1 n kd g (t + 1) v x := by
  rcases h with ⟨h1, h2⟩ | h
  · refine Or.inl ⟨h1, fun y hy e => ?_⟩
    by_cases c : y = t
    · rw [c]; rw [c] at e; exact hn e
    · exact h2 y ⟨hy.1, by omega⟩ e
  · exact Or.inr h
/-- all shapes -/
def SHP (n : Int) (kd g h : Int → Int) : Prop := ∀ x, In n x → SH1 n kd g n (h x) x
