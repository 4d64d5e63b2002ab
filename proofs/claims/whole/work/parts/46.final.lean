/-! leaders, and what settling comes to -/
def FLf (σ τ : S0) : Prop := τ.1 = σ.1 ∧ (∀ j, j ≠ 11 → j ≠ 16 → τ.2.1 j = σ.2.1 j) ∧ τ.2.2 = σ.2.2
def FL (n : Int) (row : Int → Int) (σ : S0) (x : Int) (τ : S0) : Prop := FLf σ τ ∧ Ok τ ∧ (∀ y, In n y → τ.2.1 11 y = if y < x then σ.2.1 11 (row y) else σ.2.1 11 y) ∧
  (∀ v, In (σ.1 3) v → (τ.2.1 16 v = -1 ∧ ∀ y, In x y → σ.2.1 11 (row y) ≠ v) ∨ (In x (τ.2.1 16 v) ∧ σ.2.1 11 (row (τ.2.1 16 v)) = v ∧ ∀ y, In x y → σ.2.1 11 (row y) = v → τ.2.1 16 v ≤ y))
theorem fl_0 {n : Int} {row : Int → Int} {σ : S0} (hs : Ok σ) (hl : ∀ v, In (σ.1 3) v → σ.2.1 16 v = -1) : FL n row σ 0 σ := by
  refine ⟨⟨rfl, fun _ _ _ => rfl, rfl⟩, hs, fun y hy => ?_, fun v hv => Or.inl ⟨hl v hv, fun y hy => by omega⟩⟩
  rw [if_neg (by omega)]
theorem fl_read {n : Int} {kd row : Int → Int} {σ τ : S0} {x : Int} (hR : RowOk n kd row) (h : FL n row σ x τ) (hx : In n x) : τ.2.1 11 (row x) = σ.2.1 11 (row x) := by
  obtain ⟨r1, r2, -⟩ := hR x hx
  rw [h.2.2.1 _ r1]
  split
  · rw [r2]
  · rfl
theorem fl_ne {n : Int} {row : Int → Int} {σ τ : S0} {x v : Int} (h : FL n row σ x τ) (hx : In n x) (hv : σ.2.1 11 (row x) = v) (hvi : In (σ.1 3) v) (hv4 : v < 40) (hl : τ.2.1 16 v ≠ -1) : FL n row σ (x + 1) (stF τ 11 x v) := by
  obtain ⟨hf, ho, hc, hd⟩ := h
  refine ⟨⟨hf.1, fun j a b => ?_, hf.2.2⟩, ok_stF ho ⟨by omega, by omega⟩, fun y hy => ?_, fun w hw => ?_⟩
  · show (stR τ 11 _).2.1 j = _
    rw [stR_ne _ _ a]
    exact hf.2.1 j a b
  · show ui (τ.2.1 11) x v y = _
    by_cases e : y = x
    · rw [e, ui_at, if_pos (by omega), hv]
    · rw [ui_ne _ _ e, hc y hy]
      by_cases q : y < x
      · rw [if_pos q, if_pos (by omega)]
      · rw [if_neg q, if_neg (by omega)]
  · show (τ.2.1 16 w = -1 ∧ _) ∨ (In (x + 1) (τ.2.1 16 w) ∧ σ.2.1 11 (row (τ.2.1 16 w)) = w ∧ ∀ y, In (x + 1) y → σ.2.1 11 (row y) = w → τ.2.1 16 w ≤ y)
    rcases hd w hw with ⟨d1, d2⟩ | ⟨d1, d2, d3⟩
    · left
      refine ⟨d1, fun y hy q => ?_⟩
      by_cases e : y = x
      · rw [e, hv] at q
        rw [q] at hl
        exact hl d1
      · exact d2 y ⟨hy.1, by omega⟩ q
    · right
      refine ⟨⟨d1.1, by omega⟩, d2, fun y hy q => ?_⟩
      by_cases e : y = x
      · omega
      · exact d3 y ⟨hy.1, by omega⟩ q
theorem fl_eq {n : Int} {row : Int → Int} {σ τ : S0} {x v : Int} (h : FL n row σ x τ) (hx : In n x) (hx4 : x < 40) (hv : σ.2.1 11 (row x) = v) (hvi : In (σ.1 3) v) (hv4 : v < 40) (hl : τ.2.1 16 v = -1) : FL n row σ (x + 1) (stF (stF τ 11 x v) 16 v x) := by
  obtain ⟨hf, ho, hc, hd⟩ := h
  refine ⟨⟨hf.1, fun j a b => ?_, hf.2.2⟩, ok_stF (ok_stF ho ⟨by omega, by omega⟩) ⟨by omega, by omega⟩, fun y hy => ?_, fun w hw => ?_⟩
  · show (stR (stR τ 11 _) 16 _).2.1 j = _
    rw [stR_ne _ _ b, stR_ne _ _ a]
    exact hf.2.1 j a b
  · show ui (τ.2.1 11) x v y = _
    by_cases e : y = x
    · rw [e, ui_at, if_pos (by omega), hv]
    · rw [ui_ne _ _ e, hc y hy]
      by_cases q : y < x
      · rw [if_pos q, if_pos (by omega)]
      · rw [if_neg q, if_neg (by omega)]
  · show (ui (τ.2.1 16) v x w = -1 ∧ _) ∨ (In (x + 1) (ui (τ.2.1 16) v x w) ∧ σ.2.1 11 (row (ui (τ.2.1 16) v x w)) = w ∧ ∀ y, In (x + 1) y → σ.2.1 11 (row y) = w → ui (τ.2.1 16) v x w ≤ y)
    by_cases e : w = v
    · right
      rw [e, ui_at]
      refine ⟨⟨hx.1, by omega⟩, hv, fun y hy q => ?_⟩
      rcases hd v hvi with ⟨d1, d2⟩ | ⟨d1, d2, d3⟩
      · by_cases c : y < x
        · exact absurd q (d2 y ⟨hy.1, c⟩)
        · omega
      · omega
    · rw [ui_ne _ _ e]
      rcases hd w hw with ⟨d1, d2⟩ | ⟨d1, d2, d3⟩
      · left
        refine ⟨d1, fun y hy q => ?_⟩
        by_cases c : y = x
        · rw [c, hv] at q
          exact e q.symm
        · exact d2 y ⟨hy.1, by omega⟩ q
      · right
        refine ⟨⟨d1.1, by omega⟩, d2, fun y hy q => ?_⟩
        by_cases c : y = x
        · rw [c, hv] at q
          exact absurd q.symm e
        · exact d3 y ⟨hy.1, by omega⟩ q
def vnF (vO : Int → Int) (a : Int) : Int := if a = -1 then -1 else vO a
/-- all nodes have their values -/
def VF (n : Int) (kd fa sa row : Int → Int) (u : S0) : Prop := VT u ∧ DV u ∧ u.1 3 ≤ 40 ∧
  (∀ x, In n x → In (u.1 3) (u.2.1 11 x) ∧ u.2.1 12 (u.2.1 11 x) = kd (row x) ∧ u.2.1 13 (u.2.1 11 x) = vnF (u.2.1 11) (fa (row x)) ∧ u.2.1 14 (u.2.1 11 x) = vnF (u.2.1 11) (sa (row x))) ∧
  (∀ x y, In n x → In n y → row x = row y → u.2.1 11 x = u.2.1 11 y) ∧
  (∀ x y, In n x → In n y → kd (row x) = -1 → kd (row y) = -1 → u.2.1 11 x = u.2.1 11 y → row x = row y) ∧
  (∀ v, In (u.1 3) v → In n (u.2.1 16 v) ∧ u.2.1 11 (u.2.1 16 v) = v ∧ ∀ y, In n y → u.2.1 11 y = v → u.2.1 16 v ≤ y) ∧
  u.1 4 = sm (fun x => bz (row x = x ∧ kd x = -1)) n.toNat
/-- no class that is left can get its value -/
def ST (n : Int) (kd fa sa row : Int → Int) (u : S0) : Prop := SI n kd fa sa row u ∧ (∀ y, In n y → row y = y → u.2.1 11 y = -1 → ¬ HA fa sa row u y) ∧ ∃ y, In n y ∧ row y = y ∧ u.2.1 11 y = -1
theorem vf_of {n : Int} {kd fa sa row : Int → Int} {σ u : S0} (T : Tb n kd fa sa) (hR : RowOk n kd row) (h : SI n kd fa sa row σ) (hall : ∀ x, In n x → row x = x → σ.2.1 11 x ≠ -1) (hf : FL n row σ n u) : VF n kd fa sa row u := by
  obtain ⟨⟨f1, f2, f3⟩, fo, fc, fd⟩ := hf
  obtain ⟨s1, s2, s3, s4, s5, s6, s7, s8, s9⟩ := h
  have e12 : u.2.1 12 = σ.2.1 12 := f2 12 (by decide) (by decide)
  have e13 : u.2.1 13 = σ.2.1 13 := f2 13 (by decide) (by decide)
  have e14 : u.2.1 14 = σ.2.1 14 := f2 14 (by decide) (by decide)
  have e15 : u.2.1 15 = σ.2.1 15 := f2 15 (by decide) (by decide)
  have eO : ∀ x, In n x → u.2.1 11 x = σ.2.1 11 (row x) := fun x hx => by rw [fc x hx, if_pos hx.2]
  have hsx : ∀ x, In n x → SX kd fa sa row σ (row x) := fun x hx => by
    obtain ⟨r1, r2, -⟩ := hR x hx
    rcases s4 _ r1 r2 with q | q
    · exact absurd q (hall _ r1 r2)
    · exact q
  have hvm : u.1 3 = σ.1 3 := by rw [f1]
  refine ⟨?_, ?_, ?_, fun x hx => ?_, fun x y hx hy e => ?_, fun x y hx hy kx ky e => ?_, fun v hv => ?_, ?_⟩
  · unfold VT VV
    rw [f1, f3, e12, e13, e14, e15]
    exact s1
  · unfold DV
    rw [f1, e12, e13, e14]
    exact s2
  · have q := (stl_le T.1 row σ).2
    have q2 := (reps_le row T.1).2
    have q3 := T.2.1
    omega
  · obtain ⟨a1, a2, a3, a4, a5, a6⟩ := hsx x hx
    obtain ⟨r1, r2, -⟩ := hR x hx
    rw [eO x hx, hvm, e12, e13, e14, a2, a3, a4]
    refine ⟨a1, rfl, ?_, ?_⟩
    · unfold vuF vnF
      by_cases c : fa (row x) = -1
      · rw [if_pos c, if_pos c]
      · rw [if_neg c, if_neg c, eO _ (T.fa_in r1 c)]
    · unfold vuF vnF
      by_cases c : sa (row x) = -1
      · rw [if_pos c, if_pos c]
      · rw [if_neg c, if_neg c, eO _ (T.sa_in r1 c)]
  · rw [eO x hx, eO y hy, e]
  · rw [eO x hx, eO y hy] at e
    obtain ⟨r1, r2, -⟩ := hR x hx
    obtain ⟨t1, t2, -⟩ := hR y hy
    exact s5 _ _ r1 t1 r2 t2 kx ky (hall _ r1 r2) e
  · rw [hvm] at hv
    rcases fd v hv with ⟨d1, d2⟩ | ⟨d1, d2, d3⟩
    · obtain ⟨x, x1, x2, x3⟩ := s6 v hv
      exact absurd (by rw [x2]; exact x3) (d2 x x1)
    · refine ⟨d1, by rw [eO _ d1]; exact d2, fun y hy q => d3 y hy ?_⟩
      rw [← eO y hy]
      exact q
  · rw [f1, s8]
    refine sm_congr (fun x h0 h1 => ?_)
    have hx : In n x := ⟨h0, by omega⟩
    show bz (row x = x ∧ σ.2.1 11 x ≠ -1 ∧ kd x = -1) = bz (row x = x ∧ kd x = -1)
    exact bz_congr ⟨fun q => ⟨q.1, q.2.2⟩, fun q => ⟨q.1, hall x hx q.1, q.2⟩⟩
/-- the start of settling -/
def st0 (σ : S0) : S0 := stI (stI (stR σ 11 (fun _ => -1)) 3 0) 4 0
theorem si_0 {n : Int} {kd fa sa row : Int → Int} {σ : S0} : SI n kd fa sa row (st0 σ) := by
  have e3 : (st0 σ).1 3 = 0 := rfl
  have e4 : (st0 σ).1 4 = 0 := rfl
  have e11 : (st0 σ).2.1 11 = fun _ => -1 := rfl
  have z1 : stl n row (st0 σ) = 0 := by
    unfold stl
    rw [sm_congr (g := fun _ => 0) (fun x _ _ => bz_f (fun q => q.2 rfl)), sm_const]
    omega
  have z2 : sfr n kd row (st0 σ) = 0 := by
    unfold sfr
    rw [sm_congr (g := fun _ => 0) (fun x _ _ => bz_f (fun q => q.2.1 rfl)), sm_const]
    omega
  refine ⟨⟨by omega, fun v hv => by omega⟩, fun v v' hv => by omega, fun _ _ _ => rfl, fun _ _ _ => Or.inl rfl, fun _ _ _ _ _ _ _ _ q => absurd rfl q, fun v hv => by omega, by omega, by omega, fun v hv => by omega⟩
theorem stl_0 {n : Int} {row : Int → Int} {σ : S0} : stl n row (st0 σ) = 0 := by
  unfold stl
  rw [sm_congr (g := fun _ => 0) (fun x _ _ => bz_f (fun q => q.2 rfl)), sm_const]
  omega
theorem frv_st0 (σ : S0) : FRv σ (st0 σ) := by
  unfold st0
  refine FRv.trans ?_ (frv_I (by omega))
  refine FRv.trans ?_ (frv_I (by omega))
  exact ⟨rfl, rfl, rfl, rfl, fun j hj => stR_ne σ _ (by omega), fun _ _ => rfl⟩
theorem ok_st0 {σ : S0} (h : Ok σ) : Ok (st0 σ) := ok_stI (ok_stI (ok_stR h (fun _ => ⟨by decide, by decide⟩)) ⟨by decide, by decide⟩) ⟨by decide, by decide⟩
theorem stl_some {n : Int} (hn : 0 ≤ n) {row : Int → Int} {τ : S0} (h : stl n row τ < reps row n) : ∃ y, In n y ∧ row y = y ∧ τ.2.1 11 y = -1 := by
  refine Classical.byContradiction fun c => ?_
  have e : stl n row τ = reps row n := sm_congr (fun x h0 h1 => bz_congr ⟨fun q => q.1, fun q => ⟨q, fun z => c ⟨x, ⟨h0, by omega⟩, q, z⟩⟩⟩)
  omega
theorem frv_of_fl {σ τ u : S0} (h : FRv σ τ) (g : FLf τ u) : FRv σ u := by
  refine h.trans ⟨by rw [g.1], by rw [g.1], by rw [g.1], by rw [g.1], fun j hj => g.2.1 j (by omega) (by omega), fun j _ => by rw [g.2.2]⟩
