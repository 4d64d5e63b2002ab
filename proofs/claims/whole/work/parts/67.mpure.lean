/-! the reference: its table and its classes -/
def sy (k : Int) : Int := if k = -1 then -1 else k / 3
def my (k : Int) : Int := if k = -1 then 0 else k % 3
/-- the reference's table is the class's -/
def RT (σ : S0) (n : Int) (kd fa sa : Int → Int) : Prop := σ.1 2 = n ∧ ∀ x, In n x → σ.2.1 1 x = sy (kd x) ∧ σ.2.1 2 x = my (kd x) ∧ σ.2.1 3 x = fa x ∧ σ.2.1 4 x = sa x
theorem rt_x {σ : S0} {n : Int} {kd fa sa : Int → Int} (T : Tb n kd fa sa) (h : RT σ n kd fa sa) {x : Int} (hx : In n x) : (σ.2.1 1 x < 0 ↔ kd x = -1) ∧ (0 < σ.2.1 2 x ↔ fa x ≠ -1) ∧ (1 < σ.2.1 2 x ↔ sa x ≠ -1) ∧ σ.2.1 3 x = fa x ∧ σ.2.1 4 x = sa x := by
  obtain ⟨h1, h2, h3, h4⟩ := h.2 x hx
  obtain ⟨t1, -, -, t4, t5⟩ := T.2.2 x hx
  rw [h1, h2]
  unfold sy my
  by_cases e : kd x = -1
  · rw [if_pos e, if_pos e]
    obtain ⟨q1, q2⟩ := t4 e
    exact ⟨⟨fun _ => e, fun _ => by decide⟩, ⟨fun q => by omega, fun q => absurd q1 q⟩, ⟨fun q => by omega, fun q => absurd q2 q⟩, h3, h4⟩
  · rw [if_neg e, if_neg e]
    obtain ⟨q1, q2⟩ := t5 e
    exact ⟨⟨fun q => by omega, fun q => absurd q e⟩, ⟨fun q z => by have := q1.mp z; omega, fun q => Classical.byContradiction fun z => q (q1.mpr (by omega))⟩, ⟨fun q z => by have := q2.mp z; omega, fun q => Classical.byContradiction fun z => q (q2.mpr (by omega))⟩, h3, h4⟩
theorem rt_k {σ : S0} {n : Int} {kd fa sa : Int → Int} (T : Tb n kd fa sa) (h : RT σ n kd fa sa) {x y : Int} (hx : In n x) (hy : In n y) : (σ.2.1 1 x = σ.2.1 1 y ∧ σ.2.1 2 x = σ.2.1 2 y) ↔ kd x = kd y := by
  obtain ⟨h1, h2, -⟩ := h.2 x hx
  obtain ⟨g1, g2, -⟩ := h.2 y hy
  have t1 := (T.2.2 x hx).1
  have s1 := (T.2.2 y hy).1
  rw [h1, h2, g1, g2]
  unfold sy my
  constructor
  · by_cases e : kd x = -1 <;> by_cases f : kd y = -1
    · intro _; rw [e, f]
    · rw [if_pos e, if_neg f]; intro q; omega
    · rw [if_neg e, if_pos f]; intro q; omega
    · rw [if_neg e, if_neg f, if_neg e, if_neg f]; intro q; omega
  · intro q; rw [q]; exact ⟨rfl, rfl⟩
abbrev V1 : Int → Int := fun _ => -1
/-- the least of its class, of a relation within R -/
def LW (n : Int) (g : Int → Int) (R : Int → Int → Prop) : Prop := RowOk n V1 g ∧ (∀ x, In n x → g x ≤ x) ∧ (∀ x y, In n x → In n y → g x = g y → R x y)
def mg (g : Int → Int) (s t n : Int) : Int → Int := mvF g (vmax (g s) (g t)) (vmin (g s) (g t)) n
theorem mg_same {g : Int → Int} {s t n : Int} (h : g s = g t) : mg g s t n = g := by
  funext j
  unfold mg mvF vmax vmin
  rw [h, if_neg (Int.lt_irrefl _)]
  by_cases c : 0 ≤ j ∧ j < n ∧ g j = g t
  · rw [if_pos c, c.2.2]
  · rw [if_neg c]
theorem mg_ok {n : Int} {g : Int → Int} {R : Int → Int → Prop} (hR : Eqv R) (h : LW n g R) {s t : Int} (hs : In n s) (ht : In n t) (hst : R s t) :
    LW n (mg g s t n) R ∧ mg g s t n s = mg g s t n t ∧ (∀ x y, In n x → In n y → g x = g y → mg g s t n x = mg g s t n y) ∧ (g s ≠ g t → reps (mg g s t n) n + 1 = reps g n) := by
  by_cases e : g s = g t
  · rw [mg_same e]
    exact ⟨h, e, fun _ _ _ _ q => q, fun q => absurd e q⟩
  · obtain ⟨h1, h2, h3⟩ := h
    obtain ⟨a1, a2, -⟩ := h1 s hs
    obtain ⟨b1, b2, -⟩ := h1 t ht
    have hrr : R (g s) (g t) := hR.2.2 _ _ _ (h3 _ _ a1 hs a2) (hR.2.2 _ _ _ hst (h3 _ _ ht b1 b2.symm))
    have H : ∃ p q, mg g s t n = mvF g p q n ∧ In n p ∧ In n q ∧ g p = p ∧ g q = q ∧ q < p ∧ R p q ∧ ((p = g s ∧ q = g t) ∨ (p = g t ∧ q = g s)) := by
      unfold mg vmax vmin
      by_cases c : g s < g t
      · rw [if_pos c, if_pos c]
        exact ⟨_, _, rfl, b1, a1, b2, a2, c, hR.2.1 _ _ hrr, Or.inr ⟨rfl, rfl⟩⟩
      · rw [if_neg c, if_neg c]
        exact ⟨_, _, rfl, a1, b1, a2, b2, by omega, hrr, Or.inl ⟨rfl, rfl⟩⟩
    obtain ⟨p, q, e1, p1, q1, p2, q2, hlt, hpq, hor⟩ := H
    rw [e1]
    refine ⟨⟨mv_ok h1 q1 q2 (by omega) (fun z => absurd rfl z), fun x hx => ?_, fun x y hx hy w => mv_sound h1 hR h3 p1 q1 p2 q2 hpq hx hy w⟩, ?_, fun x y hx hy w => mv_coarse h1 hx hy w, fun _ => reps_mv p1.1 p1.2 p2 q2 (by omega)⟩
    · have := h2 x hx
      rcases mv_cases (p := p) (q := q) h1 hx with ⟨w, w2⟩ | ⟨w, w2⟩
      · rw [w2]; omega
      · rw [w2]; exact this
    · rcases mv_cases (p := p) (q := q) h1 hs with ⟨w, w2⟩ | ⟨w, w2⟩ <;> rcases mv_cases (p := p) (q := q) h1 ht with ⟨x, x2⟩ | ⟨x, x2⟩
      · rw [w2, x2]
      · rw [w2, x2]; omega
      · rw [w2, x2]; omega
      · omega
abbrev RG (g : Int → Int) : Prop := ∀ i, Rg (g i)
theorem mg_rg {g : Int → Int} {s t n : Int} (h : RG g) : RG (mg g s t n) := fun i => by
  unfold mg mvF vmin
  split
  · split <;> exact h _
  · exact h i
/-- from one row of classes to a coarser one: v tells whether it is another -/
def CW (n : Int) (R : Int → Int → Prop) (g g' : Int → Int) (v : Int) : Prop := LW n g' R ∧ RG g' ∧ (∀ x y, In n x → In n y → g x = g y → g' x = g' y) ∧ ((v = 0 ∧ g' = g) ∨ (v = 1 ∧ reps g' n < reps g n))
theorem CW.rfl {n : Int} {R : Int → Int → Prop} {g : Int → Int} (h : LW n g R) (hr : RG g) : CW n R g g 0 := ⟨h, hr, fun _ _ _ _ q => q, Or.inl ⟨_root_.rfl, _root_.rfl⟩⟩
theorem CW.trans {n : Int} {R : Int → Int → Prop} {g0 g g' : Int → Int} {d v : Int} (h : CW n R g0 g d) (k : CW n R g g' v) : (v = 0 → CW n R g0 g' d) ∧ (v ≠ 0 → CW n R g0 g' 1) := by
  obtain ⟨-, -, h3, h4⟩ := h
  obtain ⟨k1, k2, k3, k4⟩ := k
  refine ⟨fun e => ?_, fun e => ?_⟩
  · rcases k4 with ⟨k4, k5⟩ | ⟨k4, k5⟩
    · subst k5
      exact ⟨k1, k2, h3, h4⟩
    · omega
  · rcases k4 with ⟨k4, k5⟩ | ⟨k4, k5⟩
    · omega
    · refine ⟨k1, k2, fun x y hx hy q => k3 x y hx hy (h3 x y hx hy q), Or.inr ⟨_root_.rfl, ?_⟩⟩
      rcases h4 with ⟨-, h5⟩ | ⟨-, h5⟩
      · rw [← h5]; exact k5
      · omega
theorem cs_mg {n : Int} {R : Int → Int → Prop} {g : Int → Int} (hR : Eqv R) (h : LW n g R) (hr : RG g) {s t : Int} (hs : In n s) (ht : In n t) (hst : R s t) : CW n R g (mg g s t n) (bz (g s ≠ g t)) := by
  obtain ⟨a, -, b, c⟩ := mg_ok hR h hs ht hst
  refine ⟨a, mg_rg hr, b, ?_⟩
  by_cases e : g s = g t
  · exact Or.inl ⟨bz_f (fun q => q e), mg_same e⟩
  · exact Or.inr ⟨bz_t e, by have := c e; omega⟩
/-- two of one class, with symbols -/
def C1 (kd fa sa g : Int → Int) (s t : Int) : Prop := g s = g t → kd s ≠ -1 → kd t ≠ -1 → kd s = kd t ∧ (fa s ≠ -1 → g (fa s) = g (fa t)) ∧ (sa s ≠ -1 → g (sa s) = g (sa t))
def CLO (n : Int) (kd fa sa g : Int → Int) : Prop := ∀ s t, In n s → In n t → C1 kd fa sa g s t
theorem clo_of {n : Int} {kd fa sa g : Int → Int} (T : Tb n kd fa sa) (h : ∀ s t, In n s → In n t → s < t → C1 kd fa sa g s t) : CLO n kd fa sa g := fun s t hs ht e k1 k2 => by
  by_cases c : s = t
  · subst c
    exact ⟨rfl, fun _ => rfl, fun _ => rfl⟩
  · by_cases d : s < t
    · exact h s t hs ht d e k1 k2
    · obtain ⟨q1, q2, q3⟩ := h t s ht hs (by omega) e.symm k2 k1
      have fe := T.fa_eq ht hs k2 q1
      exact ⟨q1.symm, fun z => (q2 (fun w => z (fe.1.mp w))).symm, fun z => (q3 (fun w => z (fe.2.mp w))).symm⟩
/-- closed, with all equations: the relation itself -/
theorem lq_of {n : Int} {kd fa sa e1 e2 g : Int → Int} {E : Int} (T : Tb n kd fa sa) (he : ∀ k, 0 ≤ k → k < E → In n (e1 k) ∧ In n (e2 k)) (h : LW n g (clo n kd fa sa e1 e2 E)) (hc : CLO n kd fa sa g) (hq : ∀ k, 0 ≤ k → k < E → g (e1 k) = g (e2 k)) : ∀ x y, In n x → In n y → (g x = g y ↔ clo n kd fa sa e1 e2 E x y) := by
  intro x y hx hy
  refine ⟨h.2.2 x y hx hy, fun hcl => ?_⟩
  have hE : Eqv (fun x y => x = y ∨ (In n x ∧ In n y ∧ g x = g y)) := by
    refine ⟨fun x => Or.inl rfl, fun x y h => ?_, fun x y z h h' => ?_⟩
    · rcases h with h | ⟨u, v, w⟩
      · exact Or.inl h.symm
      · exact Or.inr ⟨v, u, w.symm⟩
    · rcases h with h | ⟨u, v, w⟩
      · rw [h]; exact h'
      · rcases h' with h' | ⟨u', v', w'⟩
        · rw [← h']; exact Or.inr ⟨u, v, w⟩
        · exact Or.inr ⟨u, v', w.trans w'⟩
  have hC : Cl n kd fa sa (fun x y => x = y ∨ (In n x ∧ In n y ∧ g x = g y)) := by
    intro u v hu hv hk hkk huv
    rcases huv with e | ⟨-, -, e⟩
    · subst e
      exact ⟨fun _ => Or.inl rfl, fun _ => Or.inl rfl⟩
    · obtain ⟨-, q2, q3⟩ := hc u v hu hv e hk (hkk ▸ hk)
      have fe := T.fa_eq hu hv hk hkk
      exact ⟨fun z => Or.inr ⟨T.fa_in hu z, T.fa_in hv (fun w => z (fe.1.mpr w)), q2 z⟩, fun z => Or.inr ⟨T.sa_in hu z, T.sa_in hv (fun w => z (fe.2.mpr w)), q3 z⟩⟩
  rcases hcl _ hE (fun k k0 k1 => Or.inr ⟨(he k k0 k1).1, (he k k0 k1).2, hq k k0 k1⟩) hC with e | e
  · rw [e]
  · exact e.2.2
