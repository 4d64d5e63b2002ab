/-! whether one value can become another -/
/-- rows above a are done -/
def CB (σ : S0) (s t a : Int) (τ : S0) : Prop := FRp σ τ ∧ Ok τ ∧ MO τ ∧ (∀ x y, In 40 x → In 40 y → met τ x y → Rch σ s t x y ∧ In (σ.1 3) x ∧ In (σ.1 3) y ∧ x ≤ s) ∧ met τ s t ∧
  (∀ x y, In 40 x → In 40 y → a < x → met τ x y → (σ.2.1 12 x = -1 ∨ σ.2.1 12 x = σ.2.1 12 y) ∧ (σ.2.1 12 x ≠ -1 → (σ.2.1 13 x ≠ -1 → met τ (σ.2.1 13 x) (σ.2.1 13 y)) ∧ (σ.2.1 14 x ≠ -1 → met τ (σ.2.1 14 x) (σ.2.1 14 y)))) ∧
  (∀ x y y', In 40 x → In 40 y → In 40 y' → a < x → σ.2.1 12 x = -1 → met τ x y → met τ x y' → y = y')
def CBi (σ : S0) (s t a b : Int) (τ : S0) : Prop := CB σ s t a τ ∧ ∀ y, 0 ≤ y → y < b → met τ a y → σ.2.1 12 a = σ.2.1 12 y ∧ (σ.2.1 13 a ≠ -1 → met τ (σ.2.1 13 a) (σ.2.1 13 y)) ∧ (σ.2.1 14 a ≠ -1 → met τ (σ.2.1 14 a) (σ.2.1 14 y))
theorem cb_0 {σ : S0} {s t : Int} (ho : Ok σ) (h40 : σ.1 3 ≤ 40) (hs : In (σ.1 3) s) (ht : In (σ.1 3) t) : CB σ s t s (mee (stM σ 19 (fun _ => 0)) s t 1) := by
  have is : In 40 s := ⟨hs.1, by omega⟩
  have it : In 40 t := ⟨ht.1, by omega⟩
  have e19 : (stM σ 19 (fun _ => 0)).2.2 19 = fun _ => 0 := stM_at _ _ _
  have mo : MO (stM σ 19 (fun _ => 0)) := fun x hx => by
    rw [e19]
    exact ⟨Int.le_refl _, p2_pos 40⟩
  have ok : Ok (stM σ 19 (fun _ => 0)) := ok_stM ho (fun _ _ => ⟨by decide, by decide⟩)
  have fr : FRp σ (stM σ 19 (fun _ => 0)) := ⟨rfl, rfl, fun j h1 h2 => by
    show (if j = 19 then _ else σ.2.2 j) = _
    rw [if_neg h2]⟩
  have none : ∀ x y, ¬ met (stM σ 19 (fun _ => 0)) x y := fun x y q => by
    have q : tb ((stM σ 19 (fun _ => 0)).2.2 19 x) y := q
    rw [e19] at q
    have q : (0 : Int).toNat.testBit y.toNat = true := q
    rw [show (0 : Int).toNat = 0 from rfl, Nat.zero_testBit] at q
    cases q
  have only : ∀ x y, In 40 x → In 40 y → met (mee (stM σ 19 (fun _ => 0)) s t 1) x y → x = s ∧ y = t := fun x y hx hy q => by
    rcases (mee_met mo is it hx hy).mp q with q | q
    · exact absurd q (none x y)
    · exact q
  refine ⟨fr.trans (mee_frp _ _ _ _), mee_ok ok mo (Or.inr is) (Or.inr it), mee_mo mo (Or.inr is) (Or.inr it), fun x y hx hy q => ?_, (mee_met mo is it is it).mpr (Or.inr ⟨rfl, rfl⟩), fun x y hx hy hlt q => ?_, fun x y y' hx hy hy' hlt _ q _ => ?_⟩
  · obtain ⟨e1, e2⟩ := only x y hx hy q
    rw [e1, e2]
    exact ⟨fun P p _ => p, hs, ht, Int.le_refl _⟩
  · have := (only x y hx hy q).1
    omega
  · have := (only x y hx hy q).1
    omega
theorem cb_fail2 {σ τ : S0} {s t a b : Int} (h : CB σ s t a τ) (ha : In 40 a) (hb : In 40 b) (hm : met τ a b) (h1 : σ.2.1 12 a ≠ -1) (h2 : σ.2.1 12 a ≠ σ.2.1 12 b) : ¬ MatchOK σ s t := fun q => by
  rcases q.1 a b (h.2.2.2.1 a b ha hb hm).1 with e | e
  · exact h1 e
  · exact h2 e
theorem cb_fail1 {σ τ : S0} {s t a : Int} (h : CB σ s t a τ) (ha : In 40 a) (h1 : σ.2.1 12 a = -1) (h2 : 1 < pop (τ.2.2 19 a)) : ¬ MatchOK σ s t := fun q => by
  obtain ⟨y, y', hy, hy', m1, m2, hne⟩ := pop_gt1 h2
  exact hne (q.2 a y y' (h.2.2.2.1 a y ha hy m1).1 (h.2.2.2.1 a y' ha hy' m2).1 h1)
theorem cb_var {σ τ : S0} {s t a : Int} (h : CB σ s t a τ) (h1 : σ.2.1 12 a = -1) (h2 : pop (τ.2.2 19 a) ≤ 1) : CB σ s t (a - 1) τ := by
  obtain ⟨c1, c2, c3, c4, c5, c6, c7⟩ := h
  refine ⟨c1, c2, c3, c4, c5, fun x y hx hy hlt q => ?_, fun x y y' hx hy hy' hlt hk q q' => ?_⟩
  · by_cases e : x = a
    · rw [e]
      exact ⟨Or.inl h1, fun z => absurd h1 z⟩
    · exact c6 x y hx hy (by omega) q
  · by_cases e : x = a
    · rw [e] at q q'
      exact pop_le1 h2 hy hy' q q'
    · exact c7 x y y' hx hy hy' (by omega) hk q q'
theorem cb_done {σ τ : S0} {s t a : Int} (h : CBi σ s t a (σ.1 3) τ) (h1 : σ.2.1 12 a ≠ -1) : CB σ s t (a - 1) τ := by
  obtain ⟨⟨c1, c2, c3, c4, c5, c6, c7⟩, ci⟩ := h
  refine ⟨c1, c2, c3, c4, c5, fun x y hx hy hlt q => ?_, fun x y y' hx hy hy' hlt hk q q' => ?_⟩
  · by_cases e : x = a
    · subst e
      obtain ⟨-, -, iy, -⟩ := c4 x y hx hy q
      obtain ⟨k1, k2⟩ := ci y iy.1 iy.2 q
      exact ⟨Or.inr k1, fun _ => k2⟩
    · exact c6 x y hx hy (by omega) q
  · by_cases e : x = a
    · rw [e] at hk
      exact absurd hk h1
    · exact c7 x y y' hx hy hy' (by omega) hk q q'
theorem cbi_skip {σ τ : S0} {s t a b : Int} (h : CBi σ s t a b τ) (hno : ¬ met τ a b) : CBi σ s t a (b + 1) τ := ⟨h.1, fun y h0 h1 q => by
  by_cases e : y = b
  · rw [e] at q; exact absurd q hno
  · exact h.2 y h0 (by omega) q⟩
theorem cb_end {σ τ : S0} {s t : Int} (hT : VT σ) (har : AR σ) (h40 : σ.1 3 ≤ 40) (hs : In (σ.1 3) s) (ht : In (σ.1 3) t) (h : CB σ s t (-1) τ) : MatchOK σ s t := by
  obtain ⟨c1, c2, c3, c4, c5, c6, c7⟩ := h
  have all : ∀ x y, Rch σ s t x y → In 40 x ∧ In 40 y ∧ met τ x y := fun x y q => by
    refine q (fun x y => In 40 x ∧ In 40 y ∧ met τ x y) ⟨⟨hs.1, by omega⟩, ⟨ht.1, by omega⟩, c5⟩ (fun a b p hk hkk => ?_)
    obtain ⟨p1, p2, p3⟩ := p
    obtain ⟨-, i1, i2, -⟩ := c4 a b p1 p2 p3
    obtain ⟨m1, m2⟩ := (c6 a b p1 p2 (by omega) p3).2 hk
    obtain ⟨a1, a2⟩ := har a b i1 i2 hkk
    have va := hT.2 a i1
    have vb := hT.2 b i2
    refine ⟨fun z => ?_, fun z => ?_⟩
    · have ia := va.1.resolve_left z
      have ib := vb.1.resolve_left (fun w => z (a1.mpr w))
      exact ⟨⟨ia.1, by omega⟩, ⟨ib.1, by omega⟩, m1 z⟩
    · have ia := va.2.1.resolve_left z
      have ib := vb.2.1.resolve_left (fun w => z (a2.mpr w))
      exact ⟨⟨ia.1, by omega⟩, ⟨ib.1, by omega⟩, m2 z⟩
  refine ⟨fun x y q => ?_, fun x y y' q q' hk => ?_⟩
  · obtain ⟨p1, p2, p3⟩ := all x y q
    exact (c6 x y p1 p2 (by omega) p3).1
  · obtain ⟨p1, p2, p3⟩ := all x y q
    obtain ⟨r1, r2, r3⟩ := all x y' q'
    exact c7 x y y' p1 p2 r2 (by omega) hk p3 r3
theorem args40 {σ : S0} (hT : VT σ) (har : AR σ) (h40 : σ.1 3 ≤ 40) {x y : Int} (hx : In (σ.1 3) x) (hy : In (σ.1 3) y) (hk : σ.2.1 12 x = σ.2.1 12 y) :
    (σ.2.1 13 x ≠ -1 → In x (σ.2.1 13 x) ∧ In 40 (σ.2.1 13 x) ∧ In (σ.1 3) (σ.2.1 13 y) ∧ In 40 (σ.2.1 13 y)) ∧ (σ.2.1 14 x ≠ -1 → In x (σ.2.1 14 x) ∧ In 40 (σ.2.1 14 x) ∧ In (σ.1 3) (σ.2.1 14 y) ∧ In 40 (σ.2.1 14 y)) := by
  obtain ⟨a1, a2⟩ := har x y hx hy hk
  have va := hT.2 x hx
  have vb := hT.2 y hy
  refine ⟨fun z => ?_, fun z => ?_⟩
  · have ia := va.1.resolve_left z
    have ib := vb.1.resolve_left (fun w => z (a1.mpr w))
    exact ⟨ia, ⟨ia.1, by omega⟩, ⟨ib.1, by omega⟩, ⟨ib.1, by omega⟩⟩
  · have ia := va.2.1.resolve_left z
    have ib := vb.2.1.resolve_left (fun w => z (a2.mpr w))
    exact ⟨ia, ⟨ia.1, by omega⟩, ⟨ib.1, by omega⟩, ⟨ib.1, by omega⟩⟩
/-- one more pair below a -/
theorem cbi_mee {σ τ : S0} {s t a b x0 y0 w : Int} (hT : VT σ) (har : AR σ) (h40 : σ.1 3 ≤ 40) (hs : In 40 s) (ht : In 40 t) (h : CBi σ s t a b τ) (hx : In a x0) (ha : a < 40) (hb : b ≤ 40) (hy : In 40 y0) (hr : Rch σ s t x0 y0 ∧ In (σ.1 3) x0 ∧ In (σ.1 3) y0 ∧ x0 ≤ s) : CBi σ s t a b (mee τ x0 y0 w) ∧ met (mee τ x0 y0 w) x0 y0 ∧ (∀ x y, In 40 x → In 40 y → met τ x y → met (mee τ x0 y0 w) x y) ∧ (∀ y, In 40 y → (met (mee τ x0 y0 w) a y ↔ met τ a y)) := by
  obtain ⟨⟨c1, c2, c3, c4, c5, c6, c7⟩, ci⟩ := h
  have ix : In 40 x0 := ⟨hx.1, by omega⟩
  have ia : In 40 a := ⟨by omega, ha⟩
  have iff := fun x y (p : In 40 x) (q : In 40 y) => mee_met (σ := τ) (t := w) c3 ix hy p q
  have up : ∀ x y, In 40 x → In 40 y → met τ x y → met (mee τ x0 y0 w) x y := fun x y p q m => (iff x y p q).mpr (Or.inl m)
  have down : ∀ x y, In 40 x → In 40 y → a ≤ x → met (mee τ x0 y0 w) x y → met τ x y := fun x y p q l m => by
    rcases (iff x y p q).mp m with m | m
    · exact m
    · omega
  refine ⟨⟨⟨c1.trans (mee_frp _ _ _ _), mee_ok c2 c3 (Or.inr ix) (Or.inr hy), mee_mo c3 (Or.inr ix) (Or.inr hy), fun x y p q m => ?_, up s t hs ht c5, fun x y p q l m => ?_, fun x y y' p q q' l hk m m' => c7 x y y' p q q' l hk (down x y p q (by omega) m) (down x y' p q' (by omega) m')⟩, fun y h0 h1 m => ?_⟩, (iff x0 y0 ix hy).mpr (Or.inr ⟨rfl, rfl⟩), up, fun y q => ⟨fun m => down a y ia q (Int.le_refl _) m, fun m => up a y ia q m⟩⟩
  · rcases (iff x y p q).mp m with m | ⟨e1, e2⟩
    · exact c4 x y p q m
    · rw [e1, e2]; exact hr
  · have m0 := down x y p q (by omega) m
    obtain ⟨k1, k2⟩ := c6 x y p q l m0
    obtain ⟨-, i1, i2, -⟩ := c4 x y p q m0
    refine ⟨k1, fun z => ?_⟩
    obtain ⟨g1, g2⟩ := args40 hT har h40 i1 i2 (k1.resolve_left z)
    exact ⟨fun v => up _ _ (g1 v).2.1 (g1 v).2.2.2 ((k2 z).1 v), fun v => up _ _ (g2 v).2.1 (g2 v).2.2.2 ((k2 z).2 v)⟩
  · have iy : In 40 y := ⟨h0, by omega⟩
    have m0 := down a y ia iy (Int.le_refl _) m
    obtain ⟨k1, k2, k3⟩ := ci y h0 h1 m0
    obtain ⟨-, i1, i2, -⟩ := c4 a y ia iy m0
    obtain ⟨g1, g2⟩ := args40 hT har h40 i1 i2 k1
    exact ⟨k1, fun v => up _ _ (g1 v).2.1 (g1 v).2.2.2 (k2 v), fun v => up _ _ (g2 v).2.1 (g2 v).2.2.2 (k3 v)⟩
theorem cbi_arg {σ τ : S0} {s t a b : Int} (hT : VT σ) (har : AR σ) (h40 : σ.1 3 ≤ 40) (hs : In 40 s) (ht : In 40 t) (h : CBi σ s t a b τ) (hb : In (σ.1 3) b) (ia : In 40 a) (hm : met τ a b) (hk0 : σ.2.1 12 a ≠ -1) (hk : σ.2.1 12 a = σ.2.1 12 b) : CBi σ s t a (b + 1) (mea τ a b) := by
  have ib : In 40 b := ⟨hb.1, by omega⟩
  obtain ⟨r0, va, vb, ls⟩ := h.1.2.2.2.1 a b ia ib hm
  obtain ⟨g1, g2⟩ := args40 hT har h40 va vb hk
  have fr := h.1.1
  have e13 : τ.2.1 13 = σ.2.1 13 := by rw [fr.2.1]
  have e14 : τ.2.1 14 = σ.2.1 14 := by rw [fr.2.1]
  have rF : σ.2.1 13 a ≠ -1 → Rch σ s t (σ.2.1 13 a) (σ.2.1 13 b) := fun z P p c => (c a b (r0 P p c) hk0 hk).1 z
  have rS : σ.2.1 14 a ≠ -1 → Rch σ s t (σ.2.1 14 a) (σ.2.1 14 b) := fun z P p c => (c a b (r0 P p c) hk0 hk).2 z
  obtain ⟨arF, arS⟩ := har a b va vb hk
  -- the first arguments
  obtain ⟨u1, hu1⟩ : ∃ u, u = mee τ (σ.2.1 13 a) (σ.2.1 13 b) (τ.2.2 (42 + a.toNat) b) := ⟨_, rfl⟩
  have s1 : CBi σ s t a b u1 ∧ (σ.2.1 13 a ≠ -1 → met u1 (σ.2.1 13 a) (σ.2.1 13 b)) ∧ (∀ x y, In 40 x → In 40 y → met τ x y → met u1 x y) ∧ (∀ y, In 40 y → (met u1 a y ↔ met τ a y)) := by
    by_cases c : σ.2.1 13 a = -1
    · rw [hu1, mee_none (Or.inl c)]
      exact ⟨h, fun z => absurd c z, fun _ _ _ _ m => m, fun _ _ => Iff.rfl⟩
    · obtain ⟨q1, q2, q3, q4⟩ := g1 c
      obtain ⟨p1, p2, p3, p4⟩ := cbi_mee (w := τ.2.2 (42 + a.toNat) b) hT har h40 hs ht h q1 ia.2 (by omega) q4 ⟨rF c, ⟨q1.1, by omega⟩, q3, by omega⟩
      rw [hu1]
      exact ⟨p1, fun _ => p2, p3, p4⟩
  obtain ⟨s1a, s1b, s1c, s1d⟩ := s1
  have f14 : u1.2.1 14 = σ.2.1 14 := by rw [s1a.1.1.2.1]
  obtain ⟨u2, hu2⟩ : ∃ u, u = mee u1 (σ.2.1 14 a) (σ.2.1 14 b) (u1.2.2 (42 + a.toNat) b) := ⟨_, rfl⟩
  have s2 : CBi σ s t a b u2 ∧ (σ.2.1 14 a ≠ -1 → met u2 (σ.2.1 14 a) (σ.2.1 14 b)) ∧ (∀ x y, In 40 x → In 40 y → met u1 x y → met u2 x y) ∧ (∀ y, In 40 y → (met u2 a y ↔ met u1 a y)) := by
    by_cases c : σ.2.1 14 a = -1
    · rw [hu2, mee_none (Or.inl c)]
      exact ⟨s1a, fun z => absurd c z, fun _ _ _ _ m => m, fun _ _ => Iff.rfl⟩
    · obtain ⟨q1, q2, q3, q4⟩ := g2 c
      obtain ⟨p1, p2, p3, p4⟩ := cbi_mee (w := u1.2.2 (42 + a.toNat) b) hT har h40 hs ht s1a q1 ia.2 (by omega) q4 ⟨rS c, ⟨q1.1, by omega⟩, q3, by omega⟩
      rw [hu2]
      exact ⟨p1, fun _ => p2, p3, p4⟩
  obtain ⟨s2a, s2b, s2c, s2d⟩ := s2
  have he : mea τ a b = u2 := by
    unfold mea
    rw [e13, ← hu1, f14, ← hu2]
  rw [he]
  refine ⟨s2a.1, fun y h0 h1 m => ?_⟩
  by_cases e : y = b
  · subst e
    exact ⟨hk, fun z => s2c _ _ (g1 z).2.1 (g1 z).2.2.2 (s1b z), fun z => s2b z⟩
  · exact s2a.2 y h0 (by omega) m
