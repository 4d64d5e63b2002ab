/-! joining, on states -/
def FRj (σ τ : S0) (r : Nat) : Prop := (∀ i, i ≠ 1 → τ.1 i = σ.1 i) ∧ (∀ j, j ≠ 9 → j ≠ 10 → j ≠ 21 + r → τ.2.1 j = σ.2.1 j) ∧ τ.2.2 = σ.2.2
theorem FRj.trans {σ τ υ : S0} {r : Nat} (h : FRj σ τ r) (g : FRj τ υ r) : FRj σ υ r := ⟨fun i q => (g.1 i q).trans (h.1 i q), fun j a b c => (g.2.1 j a b c).trans (h.2.1 j a b c), g.2.2.trans h.2.2⟩
theorem frj_mvs (τ : S0) (r : Nat) (p q : Int) : FRj τ (mvs τ r p q) r := ⟨fun _ _ => rfl, fun _ _ _ h => stR_ne _ _ h, rfl⟩
theorem apn_L (σ : S0) (s t : Int) : (apn σ s t).2.2 = σ.2.2 := by
  unfold apn
  split <;> rfl
theorem frj_apn (τ : S0) (r : Nat) (s t : Int) : FRj τ (apn τ s t) r := ⟨fun _ h => apn_I _ _ _ h, fun _ a b _ => apn_F _ _ _ a b, apn_L _ _ _⟩
def JS (σ : S0) (r : Nat) (row0 : Int → Int) (R : Int → Int → Prop) (s t nx : Int) (τ : S0) : Prop := FRj σ τ r ∧ Ok τ ∧ JI (σ.1 0) (σ.2.1 5) (σ.2.1 6) (σ.2.1 7) row0 R s t nx (τ.2.1 (21 + r)) (τ.2.1 9) (τ.2.1 10) (τ.1 1)
theorem ji_pc {n : Int} {kd fa sa row0 row pf ps : Int → Int} {R : Int → Int → Prop} {s t nx pc : Int} (hn : n ≤ 40) (hs : In n s) (h : JI n kd fa sa row0 R s t nx row pf ps pc) : pc ≤ 79 := by
  obtain ⟨a, -, -, -, -, -, i, -⟩ := h
  have h1 := (reps_le row0 (show 0 ≤ n by omega)).2
  obtain ⟨a1, a2, -⟩ := a s hs
  have h2 : 1 ≤ reps row n := sm_pos (fun x _ _ => (bz_01 _).1) a1.1 (by omega) (by rw [bz_t a2]; omega)
  omega
theorem ji_pc2 {n : Int} {kd fa sa row0 row pf ps : Int → Int} {R : Int → Int → Prop} {s t nx pc p q : Int} (hn : n ≤ 40) (h : JI n kd fa sa row0 R s t nx row pf ps pc) (hp : In n p) (hq : In n q) (hpp : row p = p) (hqq : row q = q) (hne : p ≠ q) : pc ≤ 77 := by
  obtain ⟨a, -, -, -, -, -, i, -⟩ := h
  have h1 := (reps_le row0 (show 0 ≤ n by omega)).2
  have h2 := reps_mv (row := row) (n := n) hq.1 hq.2 hqq hpp (Ne.symm hne)
  have e : mvF row q p n p = p := by
    rw [show mvF row q p n p = row p from if_neg (fun c => hne (by rw [← hpp]; exact c.2.2)), hpp]
  have h3 : 1 ≤ reps (mvF row q p n) n := sm_pos (fun x _ _ => (bz_01 _).1) hp.1 (by omega) (by rw [bz_t e]; omega)
  omega
theorem js_same {σ τ : S0} {r : Nat} {row0 : Int → Int} {R : Int → Int → Prop} {s t nx : Int} (h : JS σ r row0 R s t nx τ) (hlt : nx < τ.1 1) (e : τ.2.1 (21 + r) (τ.2.1 9 nx) = τ.2.1 (21 + r) (τ.2.1 10 nx)) : JS σ r row0 R s t (nx + 1) τ := ⟨h.1, h.2.1, ji_same h.2.2 hlt e⟩
theorem mvs_row (τ : S0) (r : Nat) (p q : Int) : (mvs τ r p q).2.1 (21 + r) = mvF (τ.2.1 (21 + r)) p q (τ.1 0) := stR_at _ _ _
theorem mvs_F (τ : S0) (r : Nat) (p q : Int) {j : Nat} (h : j < 21) : (mvs τ r p q).2.1 j = τ.2.1 j := stR_ne _ _ (by omega)
theorem js_var {σ τ : S0} {r : Nat} {row0 : Int → Int} {R : Int → Int → Prop} (hR : Eqv R) {s t nx p q : Int} (h : JS σ r row0 R s t nx τ) (hlt : nx < τ.1 1) (hp : (p = τ.2.1 (21 + r) (τ.2.1 9 nx) ∧ q = τ.2.1 (21 + r) (τ.2.1 10 nx)) ∨ (q = τ.2.1 (21 + r) (τ.2.1 9 nx) ∧ p = τ.2.1 (21 + r) (τ.2.1 10 nx))) (hne : p ≠ q) (hv : σ.2.1 5 p = -1) (hq : Rg q) : JS σ r row0 R s t (nx + 1) (mvs τ r p q) := by
  refine ⟨h.1.trans (frj_mvs τ r p q), ok_mvs h.2.1 hq, ?_⟩
  rw [mvs_row, mvs_F _ _ _ _ (by decide), mvs_F _ _ _ _ (by decide), show τ.1 0 = σ.1 0 from h.1.1 0 (by decide)]
  exact ji_var hR h.2.2 hlt hp hne hv
theorem apn_pos {σ : S0} {s t : Int} (h : (0 ≤ s ∧ s < σ.1 0) ∧ (0 ≤ t ∧ t < σ.1 0) ∧ σ.1 1 < 80) : (apn σ s t).1 1 = σ.1 1 + 1 ∧ (apn σ s t).2.1 9 = ui (σ.2.1 9) (σ.1 1) s ∧ (apn σ s t).2.1 10 = ui (σ.2.1 10) (σ.1 1) t := by
  unfold apn
  rw [if_pos h]
  exact ⟨rfl, rfl, rfl⟩
theorem apn_neg {σ : S0} {s t : Int} (h : s = -1) : apn σ s t = σ := if_neg (fun c => by omega)
theorem js_both {σ τ : S0} {r : Nat} {row0 : Int → Int} {R : Int → Int → Prop} (T : Tb (σ.1 0) (σ.2.1 5) (σ.2.1 6) (σ.2.1 7)) (hR : Eqv R) (hC : Cl (σ.1 0) (σ.2.1 5) (σ.2.1 6) (σ.2.1 7) R) {s t nx p q : Int} (hs : In (σ.1 0) s) (h : JS σ r row0 R s t nx τ) (hlt : nx < τ.1 1) (hp : p = τ.2.1 (21 + r) (τ.2.1 9 nx)) (hq : q = τ.2.1 (21 + r) (τ.2.1 10 nx)) (hne : p ≠ q) (hv : σ.2.1 5 p ≠ -1) (hk : σ.2.1 5 p = σ.2.1 5 q) (hrp : Rg p) : JS σ r row0 R s t (nx + 1) (jc5 τ r p q) := by
  obtain ⟨hF, hO, hJ⟩ := h
  have e0 : τ.1 0 = σ.1 0 := hF.1 0 (by decide)
  have e6 : τ.2.1 6 = σ.2.1 6 := hF.2.1 6 (by decide) (by decide) (by omega)
  have e7 : τ.2.1 7 = σ.2.1 7 := hF.2.1 7 (by decide) (by decide) (by omega)
  have hpc := ji_pc T.2.1 hs hJ
  obtain ⟨k1, k2, -⟩ := hJ.2.2.2.1.2.2.2 nx hJ.2.2.2.1.1 hlt
  have p1 := (hJ.1 _ k1).1
  have q1 := (hJ.1 _ k2).1
  rw [← hp] at p1
  rw [← hq] at q1
  have hpc0 : 0 ≤ τ.1 1 := by have := hJ.2.2.2.1; omega
  have hpp : τ.2.1 (21 + r) p = p := by rw [hp]; exact (hJ.1 _ k1).2.1
  have hqq : τ.2.1 (21 + r) q = q := by rw [hq]; exact (hJ.1 _ k2).2.1
  have hpc2 := ji_pc2 T.2.1 hJ p1 q1 hpp hqq hne
  have hfe := T.fa_eq p1 q1 hv hk
  -- the first addPair
  obtain ⟨u1, hu1⟩ : ∃ u, u = mvs τ r q p := ⟨_, rfl⟩
  have o1 : Ok u1 := by rw [hu1]; exact ok_mvs hO hrp
  have a0 : u1.1 0 = σ.1 0 := by rw [hu1]; exact e0
  have a1 : u1.1 1 = τ.1 1 := by rw [hu1]; rfl
  have a6 : u1.2.1 6 = σ.2.1 6 := by rw [hu1, mvs_F _ _ _ _ (by decide), e6]
  have a7 : u1.2.1 7 = σ.2.1 7 := by rw [hu1, mvs_F _ _ _ _ (by decide), e7]
  have a9 : u1.2.1 9 = τ.2.1 9 := by rw [hu1, mvs_F _ _ _ _ (by decide)]
  have a10 : u1.2.1 10 = τ.2.1 10 := by rw [hu1, mvs_F _ _ _ _ (by decide)]
  have aR : u1.2.1 (21 + r) = mvF (τ.2.1 (21 + r)) q p (σ.1 0) := by rw [hu1, mvs_row, e0]
  have af : FRj τ u1 r := by rw [hu1]; exact frj_mvs τ r q p
  have hj : jc5 τ r p q = apn (apn u1 (u1.2.1 6 p) (u1.2.1 6 q)) ((apn u1 (u1.2.1 6 p) (u1.2.1 6 q)).2.1 7 p) ((apn u1 (u1.2.1 6 p) (u1.2.1 6 q)).2.1 7 q) := by rw [hu1]; rfl
  rw [hj, apn_F u1 _ _ (j := 7) (by decide) (by decide), a6, a7]
  clear hj hu1
  obtain ⟨u2, hu2⟩ : ∃ u, u = apn u1 (σ.2.1 6 p) (σ.2.1 6 q) := ⟨_, rfl⟩
  rw [← hu2]
  have rg : ∀ k i, Rg (σ.2.1 k i) → True := fun _ _ _ => trivial
  have rg6 : ∀ i, Rg (σ.2.1 6 i) := fun i => by rw [← e6]; exact hO.2.1 _ _
  have rg7 : ∀ i, Rg (σ.2.1 7 i) := fun i => by rw [← e7]; exact hO.2.1 _ _
  have o2 : Ok u2 := by rw [hu2]; exact ok_apn o1 (by omega) (rg6 _) (rg6 _)
  have b0 : u2.1 0 = σ.1 0 := by rw [hu2, apn_I _ _ _ (by decide), a0]
  have bR : u2.2.1 (21 + r) = mvF (τ.2.1 (21 + r)) q p (σ.1 0) := by rw [hu2, apn_F _ _ _ (by omega) (by omega), aR]
  have bf : FRj τ u2 r := af.trans (by rw [hu2]; exact frj_apn _ _ _ _)
  have b2 : (σ.2.1 6 p = -1 ∧ u2.1 1 = τ.1 1 ∧ u2.2.1 9 = τ.2.1 9 ∧ u2.2.1 10 = τ.2.1 10) ∨ (σ.2.1 6 p ≠ -1 ∧ u2.1 1 = τ.1 1 + 1 ∧ u2.2.1 9 = ui (τ.2.1 9) (τ.1 1) (σ.2.1 6 p) ∧ u2.2.1 10 = ui (τ.2.1 10) (τ.1 1) (σ.2.1 6 q)) := by
    by_cases c : σ.2.1 6 p = -1
    · left
      rw [hu2, apn_neg c]
      exact ⟨c, a1, a9, a10⟩
    · right
      have c1 := T.fa_in p1 c
      have c2 := T.fa_in q1 (fun z => c (hfe.1.mpr z))
      obtain ⟨d1, d2, d3⟩ := apn_pos (σ := u1) (s := σ.2.1 6 p) (t := σ.2.1 6 q) ⟨by rw [a0]; exact c1, by rw [a0]; exact c2, by omega⟩
      rw [hu2]
      exact ⟨c, by rw [d1, a1], by rw [d2, a9, a1], by rw [d3, a10, a1]⟩
  clear hu2
  obtain ⟨u3, hu3⟩ : ∃ u, u = apn u2 (σ.2.1 7 p) (σ.2.1 7 q) := ⟨_, rfl⟩
  rw [← hu3]
  have o3 : Ok u3 := by rw [hu3]; exact ok_apn o2 (by omega) (rg7 _) (rg7 _)
  have cR : u3.2.1 (21 + r) = mvF (τ.2.1 (21 + r)) q p (σ.1 0) := by rw [hu3, apn_F _ _ _ (by omega) (by omega), bR]
  have cf : FRj τ u3 r := bf.trans (by rw [hu3]; exact frj_apn _ _ _ _)
  have c2 : (σ.2.1 7 p = -1 ∧ u3.1 1 = u2.1 1 ∧ u3.2.1 9 = u2.2.1 9 ∧ u3.2.1 10 = u2.2.1 10) ∨ (σ.2.1 7 p ≠ -1 ∧ u3.1 1 = u2.1 1 + 1 ∧ u3.2.1 9 = ui (u2.2.1 9) (u2.1 1) (σ.2.1 7 p) ∧ u3.2.1 10 = ui (u2.2.1 10) (u2.1 1) (σ.2.1 7 q)) := by
    by_cases c : σ.2.1 7 p = -1
    · left
      rw [hu3, apn_neg c]
      exact ⟨c, rfl, rfl, rfl⟩
    · right
      have c1 := T.sa_in p1 c
      have c2 := T.sa_in q1 (fun z => c (hfe.2.mpr z))
      have hu : u2.1 1 < 80 := by
        rcases b2 with ⟨-, x1, -⟩ | ⟨-, x1, -⟩ <;> omega
      obtain ⟨d1, d2, d3⟩ := apn_pos (σ := u2) (s := σ.2.1 7 p) (t := σ.2.1 7 q) ⟨by rw [b0]; exact c1, by rw [b0]; exact c2, hu⟩
      rw [hu3]
      exact ⟨c, d1, d2, d3⟩
  clear hu3
  refine ⟨hF.trans cf, o3, ?_⟩
  rw [cR]
  refine ji_both T hR hC hJ hlt hp hq hne hv hk (by omega) (by omega) (fun i i0 i1 => ?_) (fun i i0 i1 => ?_) (fun c => ?_) (fun c => ?_)
  · have n1 : i ≠ τ.1 1 := by omega
    have n2 : i ≠ u2.1 1 := by omega
    rcases b2 with ⟨-, x1, x2, x3⟩ | ⟨-, x1, x2, x3⟩ <;> rcases c2 with ⟨-, y1, y2, y3⟩ | ⟨-, y1, y2, y3⟩ <;> rw [y2, y3, x2, x3] <;> constructor <;> simp only [ui_ne _ _ n1, ui_ne _ _ n2]
  · rcases b2 with ⟨x0, x1, x2, x3⟩ | ⟨x0, x1, x2, x3⟩ <;> rcases c2 with ⟨y0, y1, y2, y3⟩ | ⟨y0, y1, y2, y3⟩
    · omega
    · have e : i = u2.1 1 := by omega
      right
      exact ⟨y0, by rw [y2, e, ui_at], by rw [y3, e, ui_at]⟩
    · have e : i = τ.1 1 := by omega
      left
      exact ⟨x0, by rw [y2, x2, e, ui_at], by rw [y3, x3, e, ui_at]⟩
    · by_cases e : i = τ.1 1
      · have n2 : i ≠ u2.1 1 := by omega
        left
        exact ⟨x0, by rw [y2, x2, ui_ne _ _ n2, e, ui_at], by rw [y3, x3, ui_ne _ _ n2, e, ui_at]⟩
      · have e2 : i = u2.1 1 := by omega
        right
        exact ⟨y0, by rw [y2, e2, ui_at], by rw [y3, e2, ui_at]⟩
  · rcases b2 with ⟨x0, -⟩ | ⟨x0, x1, x2, x3⟩
    · exact absurd x0 c
    · refine ⟨τ.1 1, by omega, by omega, ?_⟩
      rcases c2 with ⟨-, y1, y2, y3⟩ | ⟨-, y1, y2, y3⟩
      · rw [y2, y3, x2, x3, ui_at, ui_at]
        exact ⟨rfl, rfl⟩
      · have n2 : τ.1 1 ≠ u2.1 1 := by omega
        rw [y2, y3, x2, x3, ui_ne _ _ n2, ui_ne _ _ n2, ui_at, ui_at]
        exact ⟨rfl, rfl⟩
  · rcases c2 with ⟨y0, -⟩ | ⟨y0, y1, y2, y3⟩
    · exact absurd y0 c
    · refine ⟨u2.1 1, by omega, by omega, ?_⟩
      rw [y2, y3, ui_at, ui_at]
      exact ⟨rfl, rfl⟩
theorem eqA_cpy {σ : S0} {r r0 : Nat} (hr : r < 21) : eqA LT (stR σ (21 + r) (cpF (σ.2.1 (21 + r0)) (σ.2.1 (21 + r)) 40)) (stR σ (21 + r) (σ.2.1 (21 + r0))) := by
  refine ⟨rfl, fun j i h0 h1 => ?_, fun _ _ _ _ => rfl⟩
  by_cases e : j = 21 + r
  · subst e
    rw [kT_row hr] at h1
    rw [stR_at, stR_at]
    exact if_pos ⟨h0, h1⟩
  · rw [stR_ne _ _ e, stR_ne _ _ e]
theorem js_0 {σ : S0} {r r0 : Nat} {e1 e2 : Int → Int} {E s t : Int} (hO : Ok σ) (T : Tb (σ.1 0) (σ.2.1 5) (σ.2.1 6) (σ.2.1 7)) (hE : 0 ≤ E) (h : RowC (σ.1 0) (σ.2.1 5) (σ.2.1 6) (σ.2.1 7) (σ.2.1 (21 + r0)) (clo (σ.1 0) (σ.2.1 5) (σ.2.1 6) (σ.2.1 7) e1 e2 E)) (hs : In (σ.1 0) s) (ht : In (σ.1 0) t) (h1 : e1 E = s) (h2 : e2 E = t) :
    JS σ r (σ.2.1 (21 + r0)) (clo (σ.1 0) (σ.2.1 5) (σ.2.1 6) (σ.2.1 7) e1 e2 (E + 1)) s t 0 (apn (stI (stR σ (21 + r) (σ.2.1 (21 + r0))) 1 0) s t) := by
  have hn := T.2.1
  have o1 : Ok (stI (stR σ (21 + r) (σ.2.1 (21 + r0))) 1 0) := ok_stI (ok_stR hO (hO.2.1 _)) ⟨by decide, by decide⟩
  have f1 : FRj σ (stI (stR σ (21 + r) (σ.2.1 (21 + r0))) 1 0) r := ⟨fun i h => uq_ne _ _ h, fun j _ _ h => stR_ne _ _ h, rfl⟩
  have c0 : (stI (stR σ (21 + r) (σ.2.1 (21 + r0))) 1 0).1 0 = σ.1 0 := rfl
  have c1 : (stI (stR σ (21 + r) (σ.2.1 (21 + r0))) 1 0).1 1 = 0 := rfl
  have cR : (stI (stR σ (21 + r) (σ.2.1 (21 + r0))) 1 0).2.1 (21 + r) = σ.2.1 (21 + r0) := stR_at _ _ _
  obtain ⟨u, hu⟩ : ∃ u, u = stI (stR σ (21 + r) (σ.2.1 (21 + r0))) 1 0 := ⟨_, rfl⟩
  rw [← hu] at o1 f1 c0 c1 cR ⊢
  obtain ⟨d1, d2, d3⟩ := apn_pos (σ := u) (s := s) (t := t) ⟨by rw [c0]; exact hs, by rw [c0]; exact ht, by omega⟩
  refine ⟨f1.trans (frj_apn _ _ _ _), ok_apn o1 (by omega) ⟨by omega, by omega⟩ ⟨by omega, by omega⟩, ?_⟩
  rw [d1, d2, d3, c1, apn_F _ _ _ (by omega) (by omega), cR]
  exact ji_0 T hE h hs ht h1 h2 (ui_at _ _ _) (ui_at _ _ _)
