/-! the invariant of settling, and its steps -/
def stl (n : Int) (row : Int → Int) (τ : S0) : Int := sm (fun x => bz (row x = x ∧ τ.2.1 11 x ≠ -1)) n.toNat
def sfr (n : Int) (kd row : Int → Int) (τ : S0) : Int := sm (fun x => bz (row x = x ∧ τ.2.1 11 x ≠ -1 ∧ kd x = -1)) n.toNat
/-- the class of x has its value -/
def SX (kd fa sa row : Int → Int) (τ : S0) (x : Int) : Prop := In (τ.1 3) (τ.2.1 11 x) ∧ τ.2.1 12 (τ.2.1 11 x) = kd x ∧ τ.2.1 13 (τ.2.1 11 x) = vuF (τ.2.1 11) row (fa x) ∧ τ.2.1 14 (τ.2.1 11 x) = vuF (τ.2.1 11) row (sa x) ∧
  (fa x ≠ -1 → τ.2.1 11 (row (fa x)) ≠ -1) ∧ (sa x ≠ -1 → τ.2.1 11 (row (sa x)) ≠ -1)
def DV (τ : S0) : Prop := ∀ v v', In (τ.1 3) v → In (τ.1 3) v' → τ.2.1 12 v ≠ -1 → τ.2.1 12 v = τ.2.1 12 v' → τ.2.1 13 v = τ.2.1 13 v' → τ.2.1 14 v = τ.2.1 14 v' → v = v'
def SI (n : Int) (kd fa sa row : Int → Int) (τ : S0) : Prop := VT τ ∧ DV τ ∧ (∀ x, In n x → row x ≠ x → τ.2.1 11 x = -1) ∧ (∀ x, In n x → row x = x → τ.2.1 11 x = -1 ∨ SX kd fa sa row τ x) ∧
  (∀ x y, In n x → In n y → row x = x → row y = y → kd x = -1 → kd y = -1 → τ.2.1 11 x ≠ -1 → τ.2.1 11 x = τ.2.1 11 y → x = y) ∧
  (∀ v, In (τ.1 3) v → ∃ x, In n x ∧ row x = x ∧ τ.2.1 11 x = v) ∧ τ.1 3 ≤ stl n row τ ∧ τ.1 4 = sfr n kd row τ ∧ (∀ v, In (τ.1 3) v → τ.2.1 16 v = -1)
/-- its arguments have their values -/
def HA (fa sa row : Int → Int) (τ : S0) (x : Int) : Prop := (fa x = -1 ∨ vuF (τ.2.1 11) row (fa x) ≠ -1) ∧ (sa x = -1 ∨ vuF (τ.2.1 11) row (sa x) ≠ -1)
theorem vuF_ui {vO row : Int → Int} {x v a : Int} (h : a ≠ -1 → row a ≠ x) : vuF (ui vO x v) row a = vuF vO row a := by
  unfold vuF
  by_cases e : a = -1
  · rw [if_pos e, if_pos e]
  · rw [if_neg e, if_neg e, ui_ne _ _ (h e)]
theorem vuF_ne {vO row : Int → Int} {a : Int} (h : a ≠ -1) : vuF vO row a = vO (row a) := if_neg h
theorem sx_keep {kd fa sa row : Int → Int} {τ u : S0} {x v y : Int} (h : SX kd fa sa row τ y) (hx : τ.2.1 11 x = -1) (hu : u.2.1 11 = ui (τ.2.1 11) x v) (hm : τ.1 3 ≤ u.1 3) (ht : ∀ w, In (τ.1 3) w → u.2.1 12 w = τ.2.1 12 w ∧ u.2.1 13 w = τ.2.1 13 w ∧ u.2.1 14 w = τ.2.1 14 w) : SX kd fa sa row u y := by
  obtain ⟨a1, a2, a3, a4, a5, a6⟩ := h
  have hyx : y ≠ x := by
    intro e
    rw [e, hx] at a1
    omega
  have f1 : fa y ≠ -1 → row (fa y) ≠ x := fun q e => a5 q (by rw [e]; exact hx)
  have f2 : sa y ≠ -1 → row (sa y) ≠ x := fun q e => a6 q (by rw [e]; exact hx)
  have e1 : u.2.1 11 y = τ.2.1 11 y := by rw [hu, ui_ne _ _ hyx]
  obtain ⟨t1, t2, t3⟩ := ht _ a1
  unfold SX
  rw [e1, t1, t2, t3, hu, vuF_ui f1, vuF_ui f2]
  refine ⟨⟨a1.1, by omega⟩, a2, a3, a4, fun q => ?_, fun q => ?_⟩
  · rw [ui_ne _ _ (f1 q)]; exact a5 q
  · rw [ui_ne _ _ (f2 q)]; exact a6 q
theorem si_step {n : Int} {kd fa sa row : Int → Int} {τ u : S0} {x v : Int} (h : SI n kd fa sa row τ) (hin : In n x) (hrep : row x = x) (hx : τ.2.1 11 x = -1) (hha : HA fa sa row τ x)
    (hu : u.2.1 11 = ui (τ.2.1 11) x v) (hv : In (u.1 3) v) (hm : τ.1 3 ≤ u.1 3) (hm2 : u.1 3 ≤ τ.1 3 + 1) (hvt : VT u) (ht : ∀ w, In (τ.1 3) w → u.2.1 12 w = τ.2.1 12 w ∧ u.2.1 13 w = τ.2.1 13 w ∧ u.2.1 14 w = τ.2.1 14 w)
    (hk : u.2.1 12 v = kd x) (hf : u.2.1 13 v = vuF (τ.2.1 11) row (fa x)) (hsv : u.2.1 14 v = vuF (τ.2.1 11) row (sa x)) (hdv : DV u) (hold : ∀ w, In (u.1 3) w → In (τ.1 3) w ∨ w = v)
    (hvar : kd x = -1 → ¬ In (τ.1 3) v) (hfr : u.1 4 = τ.1 4 + bz (kd x = -1)) (hl : ∀ w, In (u.1 3) w → u.2.1 16 w = -1) : SI n kd fa sa row u ∧ stl n row u = stl n row τ + 1 := by
  obtain ⟨-, -, b3, b4, b5, b6, b7, b8, -⟩ := h
  have hv1 : v ≠ -1 := by omega
  have huy : ∀ y, y ≠ x → u.2.1 11 y = τ.2.1 11 y := fun y hy => by rw [hu, ui_ne _ _ hy]
  have hux : u.2.1 11 x = v := by rw [hu, ui_at]
  have f1 : fa x ≠ -1 → row (fa x) ≠ x ∧ τ.2.1 11 (row (fa x)) ≠ -1 := by
    intro q
    rcases hha.1 with e | e
    · exact absurd e q
    · rw [vuF_ne q] at e
      exact ⟨fun z => e (by rw [z]; exact hx), e⟩
  have f2 : sa x ≠ -1 → row (sa x) ≠ x ∧ τ.2.1 11 (row (sa x)) ≠ -1 := by
    intro q
    rcases hha.2 with e | e
    · exact absurd e q
    · rw [vuF_ne q] at e
      exact ⟨fun z => e (by rw [z]; exact hx), e⟩
  have hstl : stl n row u = stl n row τ + 1 := by
    symm
    refine sm_dec (i := x) hin.1 (by omega) (fun y y0 y1 hy => ?_) ?_
    · rw [huy y hy]
    · have e1 : bz (row x = x ∧ τ.2.1 11 x ≠ -1) = 0 := bz_f (fun z => z.2 hx)
      have e2 : bz (row x = x ∧ u.2.1 11 x ≠ -1) = 1 := bz_t ⟨hrep, by rw [hux]; exact hv1⟩
      show bz (row x = x ∧ τ.2.1 11 x ≠ -1) + 1 = bz (row x = x ∧ u.2.1 11 x ≠ -1)
      omega
  have hsfr : sfr n kd row u = sfr n kd row τ + bz (kd x = -1) := by
    by_cases hkx : kd x = -1
    · rw [bz_t hkx]
      symm
      refine sm_dec (i := x) hin.1 (by omega) (fun y y0 y1 hy => ?_) ?_
      · rw [huy y hy]
      · have e1 : bz (row x = x ∧ τ.2.1 11 x ≠ -1 ∧ kd x = -1) = 0 := bz_f (fun z => z.2.1 hx)
        have e2 : bz (row x = x ∧ u.2.1 11 x ≠ -1 ∧ kd x = -1) = 1 := bz_t ⟨hrep, by rw [hux]; exact hv1, hkx⟩
        show bz (row x = x ∧ τ.2.1 11 x ≠ -1 ∧ kd x = -1) + 1 = bz (row x = x ∧ u.2.1 11 x ≠ -1 ∧ kd x = -1)
        omega
    · rw [bz_f hkx]
      have e : sfr n kd row u = sfr n kd row τ := sm_congr (fun y _ _ => by
        by_cases hy : y = x
        · subst hy
          show bz (row y = y ∧ u.2.1 11 y ≠ -1 ∧ kd y = -1) = bz (row y = y ∧ τ.2.1 11 y ≠ -1 ∧ kd y = -1)
          rw [bz_f (fun z => hkx z.2.2), bz_f (fun z => hkx z.2.2)]
        · show bz (row y = y ∧ u.2.1 11 y ≠ -1 ∧ kd y = -1) = bz (row y = y ∧ τ.2.1 11 y ≠ -1 ∧ kd y = -1)
          rw [huy y hy])
      omega
  refine ⟨⟨hvt, hdv, fun y hy hr => ?_, fun y hy hr => ?_, fun y z hy hz ry rz ky kz e0 e => ?_, fun w hw => ?_, by omega, by omega, hl⟩, hstl⟩
  · have hyx : y ≠ x := fun e => hr (by rw [e]; exact hrep)
    rw [huy y hyx]
    exact b3 y hy hr
  · by_cases hyx : y = x
    · subst hyx
      right
      unfold SX
      rw [hux, hk, hf, hsv, hu, vuF_ui (fun q => (f1 q).1), vuF_ui (fun q => (f2 q).1)]
      refine ⟨hv, rfl, rfl, rfl, fun q => ?_, fun q => ?_⟩
      · rw [ui_ne _ _ (f1 q).1]; exact (f1 q).2
      · rw [ui_ne _ _ (f2 q).1]; exact (f2 q).2
    · rcases b4 y hy hr with e | e
      · left
        rw [huy y hyx]
        exact e
      · right
        exact sx_keep e hx hu hm ht
  · have old : ∀ w, In n w → row w = w → τ.2.1 11 w ≠ -1 → In (τ.1 3) (τ.2.1 11 w) := fun w hw hr q => by
      rcases b4 w hw hr with e | e
      · exact absurd e q
      · exact e.1
    by_cases hyx : y = x
    · by_cases hzx : z = x
      · rw [hyx, hzx]
      · subst hyx
        rw [hux] at e e0
        rw [huy z hzx] at e
        exact absurd (e ▸ old z hz rz (by rw [← e]; exact e0)) (hvar ky)
    · by_cases hzx : z = x
      · subst hzx
        rw [hux, huy y hyx] at e
        rw [huy y hyx] at e0
        exact absurd (e ▸ old y hy ry e0) (hvar kz)
      · rw [huy y hyx] at e0 e
        rw [huy z hzx] at e
        exact b5 y z hy hz ry rz ky kz e0 e
  · rcases hold w hw with e | e
    · obtain ⟨y, y1, y2, y3⟩ := b6 w e
      refine ⟨y, y1, y2, ?_⟩
      have hyx : y ≠ x := fun q => by rw [q, hx] at y3; omega
      rw [huy y hyx]
      exact y3
    · exact ⟨x, hin, hrep, by rw [hux, e]⟩
/-- the value is there already -/
theorem si_found {n : Int} {kd fa sa row : Int → Int} {τ : S0} {x v : Int} (h : SI n kd fa sa row τ) (hin : In n x) (hrep : row x = x) (hx : τ.2.1 11 x = -1) (hha : HA fa sa row τ x) (hkx : kd x ≠ -1) (hv : In (τ.1 3) v) (hk : τ.2.1 12 v = kd x) (hf : τ.2.1 13 v = vuF (τ.2.1 11) row (fa x)) (hs : τ.2.1 14 v = vuF (τ.2.1 11) row (sa x)) :
    SI n kd fa sa row (stF τ 11 x v) ∧ stl n row (stF τ 11 x v) = stl n row τ + 1 :=
  si_step h hin hrep hx hha (u := stF τ 11 x v) (v := v) rfl hv (Int.le_refl _) (show τ.1 3 ≤ τ.1 3 + 1 by omega) h.1 (fun w _ => ⟨rfl, rfl, rfl⟩) hk hf hs h.2.1 (fun w hw => Or.inl hw) (fun q => absurd q hkx) (by rw [bz_f hkx]; show τ.1 4 = τ.1 4 + 0; omega) h.2.2.2.2.2.2.2.2
theorem si_args {n : Int} {kd fa sa row : Int → Int} {τ : S0} (T : Tb n kd fa sa) (hr : RowOk n kd row) (h : SI n kd fa sa row τ) {x : Int} (hin : In n x) (hha : HA fa sa row τ x) : (vuF (τ.2.1 11) row (fa x) = -1 ∨ In (τ.1 3) (vuF (τ.2.1 11) row (fa x))) ∧ (vuF (τ.2.1 11) row (sa x) = -1 ∨ In (τ.1 3) (vuF (τ.2.1 11) row (sa x))) := by
  obtain ⟨-, -, b3, b4, -⟩ := h
  have key : ∀ a, In n a → τ.2.1 11 (row a) = -1 ∨ In (τ.1 3) (τ.2.1 11 (row a)) := fun a ha => by
    obtain ⟨r1, r2, -⟩ := hr a ha
    rcases b4 _ r1 r2 with e | e
    · exact Or.inl e
    · exact Or.inr e.1
  constructor
  · by_cases e : fa x = -1
    · exact Or.inl (if_pos e)
    · rw [vuF_ne e]; exact key _ (T.fa_in hin e)
  · by_cases e : sa x = -1
    · exact Or.inl (if_pos e)
    · rw [vuF_ne e]; exact key _ (T.sa_in hin e)
theorem vt_11 {τ : S0} {x v : Int} (h : VT τ) : VT (stF τ 11 x v) := h
theorem dv_11 {τ : S0} {x v : Int} (h : DV τ) : DV (stF τ 11 x v) := h
/-- a new value with a symbol -/
theorem si_adv {n : Int} {kd fa sa row : Int → Int} {τ : S0} {x : Int} (T : Tb n kd fa sa) (hr : RowOk n kd row) (h : SI n kd fa sa row τ) (hin : In n x) (hrep : row x = x) (hx : τ.2.1 11 x = -1) (hha : HA fa sa row τ x) (hkx : kd x ≠ -1)
    (hno : ∀ v, In (τ.1 3) v → ¬ (τ.2.1 12 v = kd x ∧ τ.2.1 13 v = vuF (τ.2.1 11) row (fa x) ∧ τ.2.1 14 v = vuF (τ.2.1 11) row (sa x))) :
    SI n kd fa sa row (stF (adv τ (kd x) (vuF (τ.2.1 11) row (fa x)) (vuF (τ.2.1 11) row (sa x))) 11 x (τ.1 3)) ∧ stl n row (stF (adv τ (kd x) (vuF (τ.2.1 11) row (fa x)) (vuF (τ.2.1 11) row (sa x))) 11 x (τ.1 3)) = stl n row τ + 1 := by
  obtain ⟨ha, hb⟩ := si_args T hr h hin hha
  have h0 := h.1.1
  have hvt := vt_adv (k := kd x) h.1 ha hb hkx
  have e12 := adv_12 τ (kd x) (vuF (τ.2.1 11) row (fa x)) (vuF (τ.2.1 11) row (sa x))
  have e13 := adv_13 τ (kd x) (vuF (τ.2.1 11) row (fa x)) (vuF (τ.2.1 11) row (sa x))
  have e14 := adv_14 τ (kd x) (vuF (τ.2.1 11) row (fa x)) (vuF (τ.2.1 11) row (sa x))
  have e16 := adv_16 τ (kd x) (vuF (τ.2.1 11) row (fa x)) (vuF (τ.2.1 11) row (sa x))
  have hdv : DV (adv τ (kd x) (vuF (τ.2.1 11) row (fa x)) (vuF (τ.2.1 11) row (sa x))) := by
    intro v v' hv hv'
    have q1 : v < τ.1 3 + 1 := hv.2
    have q2 : v' < τ.1 3 + 1 := hv'.2
    rw [e12, e13, e14]
    by_cases e : v = τ.1 3
    · by_cases e' : v' = τ.1 3
      · intro _ _ _ _; rw [e, e']
      · rw [e, ui_at, ui_at, ui_at, ui_ne _ _ e', ui_ne _ _ e', ui_ne _ _ e']
        intro _ a1 a2 a3
        exact absurd ⟨a1.symm, a2.symm, a3.symm⟩ (hno v' ⟨hv'.1, by omega⟩)
    · by_cases e' : v' = τ.1 3
      · rw [e', ui_at, ui_at, ui_at, ui_ne _ _ e, ui_ne _ _ e, ui_ne _ _ e]
        intro _ a1 a2 a3
        exact absurd ⟨a1, a2, a3⟩ (hno v ⟨hv.1, by omega⟩)
      · rw [ui_ne _ _ e, ui_ne _ _ e, ui_ne _ _ e, ui_ne _ _ e', ui_ne _ _ e', ui_ne _ _ e']
        exact h.2.1 v v' ⟨hv.1, by omega⟩ ⟨hv'.1, by omega⟩
  refine si_step h hin hrep hx hha (v := τ.1 3) rfl ⟨h0, show τ.1 3 < τ.1 3 + 1 by omega⟩ (show τ.1 3 ≤ τ.1 3 + 1 by omega) (Int.le_refl _) (vt_11 hvt) (fun w hw => ?_) ?_ ?_ ?_ (dv_11 hdv) (fun w hw => ?_) (fun q => absurd q hkx) ?_ (fun w hw => ?_)
  · show ui (τ.2.1 12) (τ.1 3) _ w = _ ∧ ui (τ.2.1 13) (τ.1 3) _ w = _ ∧ ui (τ.2.1 14) (τ.1 3) _ w = _
    have hne : w ≠ τ.1 3 := by omega
    exact ⟨ui_ne _ _ hne, ui_ne _ _ hne, ui_ne _ _ hne⟩
  · show ui (τ.2.1 12) (τ.1 3) _ (τ.1 3) = _
    exact ui_at _ _ _
  · show ui (τ.2.1 13) (τ.1 3) _ (τ.1 3) = _
    exact ui_at _ _ _
  · show ui (τ.2.1 14) (τ.1 3) _ (τ.1 3) = _
    exact ui_at _ _ _
  · have q : w < τ.1 3 + 1 := hw.2
    by_cases e : w = τ.1 3
    · exact Or.inr e
    · exact Or.inl ⟨hw.1, by omega⟩
  · rw [bz_f hkx]
    show τ.1 4 = τ.1 4 + 0
    omega
  · have q : w < τ.1 3 + 1 := hw.2
    show ui (τ.2.1 16) (τ.1 3) (-1) w = -1
    by_cases e : w = τ.1 3
    · rw [e, ui_at]
    · rw [ui_ne _ _ e]
      exact h.2.2.2.2.2.2.2.2 w ⟨hw.1, by omega⟩
/-- a new value that is a variable -/
theorem si_adw {n : Int} {kd fa sa row : Int → Int} {τ : S0} {x : Int} (T : Tb n kd fa sa) (h : SI n kd fa sa row τ) (hin : In n x) (hrep : row x = x) (hx : τ.2.1 11 x = -1) (hkx : kd x = -1) :
    SI n kd fa sa row (stF (adw τ) 11 x (τ.1 3)) ∧ stl n row (stF (adw τ) 11 x (τ.1 3)) = stl n row τ + 1 := by
  have h0 := h.1.1
  obtain ⟨hf, hs⟩ := (T.2.2 x hin).2.2.2.1 hkx
  have hha : HA fa sa row τ x := ⟨Or.inl hf, Or.inl hs⟩
  have hdv : DV (adw τ) := by
    intro v v' hv hv'
    have q1 : v < τ.1 3 + 1 := hv.2
    have q2 : v' < τ.1 3 + 1 := hv'.2
    show ui (τ.2.1 12) (τ.1 3) (-1) v ≠ -1 → ui (τ.2.1 12) (τ.1 3) (-1) v = ui (τ.2.1 12) (τ.1 3) (-1) v' → ui (τ.2.1 13) (τ.1 3) (-1) v = ui (τ.2.1 13) (τ.1 3) (-1) v' → ui (τ.2.1 14) (τ.1 3) (-1) v = ui (τ.2.1 14) (τ.1 3) (-1) v' → v = v'
    by_cases e : v = τ.1 3
    · rw [e, ui_at]
      intro q
      exact absurd rfl q
    · by_cases e' : v' = τ.1 3
      · rw [e', ui_ne _ _ e, ui_at]
        intro q q'
        exact absurd q' q
      · rw [ui_ne _ _ e, ui_ne _ _ e, ui_ne _ _ e, ui_ne _ _ e', ui_ne _ _ e', ui_ne _ _ e']
        exact h.2.1 v v' ⟨hv.1, by omega⟩ ⟨hv'.1, by omega⟩
  refine si_step h hin hrep hx hha (v := τ.1 3) rfl ⟨h0, show τ.1 3 < τ.1 3 + 1 by omega⟩ (show τ.1 3 ≤ τ.1 3 + 1 by omega) (Int.le_refl _) (vt_11 (vt_adw h.1)) (fun w hw => ?_) ?_ ?_ ?_ (dv_11 hdv) (fun w hw => ?_) (fun q z => by have := z.2; omega) ?_ (fun w hw => ?_)
  · show ui (τ.2.1 12) (τ.1 3) _ w = _ ∧ ui (τ.2.1 13) (τ.1 3) _ w = _ ∧ ui (τ.2.1 14) (τ.1 3) _ w = _
    have hne : w ≠ τ.1 3 := by omega
    exact ⟨ui_ne _ _ hne, ui_ne _ _ hne, ui_ne _ _ hne⟩
  · show ui (τ.2.1 12) (τ.1 3) _ (τ.1 3) = _
    rw [ui_at, hkx]
  · show ui (τ.2.1 13) (τ.1 3) _ (τ.1 3) = _
    rw [ui_at, hf]
    exact (if_pos rfl).symm
  · show ui (τ.2.1 14) (τ.1 3) _ (τ.1 3) = _
    rw [ui_at, hs]
    exact (if_pos rfl).symm
  · have q : w < τ.1 3 + 1 := hw.2
    by_cases e : w = τ.1 3
    · exact Or.inr e
    · exact Or.inl ⟨hw.1, by omega⟩
  · rw [bz_t hkx]
    rfl
  · have q : w < τ.1 3 + 1 := hw.2
    show ui (τ.2.1 16) (τ.1 3) (-1) w = -1
    by_cases e : w = τ.1 3
    · rw [e, ui_at]
    · rw [ui_ne _ _ e]
      exact h.2.2.2.2.2.2.2.2 w ⟨hw.1, by omega⟩
