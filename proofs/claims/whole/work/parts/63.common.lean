/-! the size of the least general term of two values -/
def cmF (σ : S0) : Nat → Int → Int → Int
  | 0, _, _ => 0
  | f + 1, x, y => if x = -1 ∨ y = -1 then 0 else if σ.2.1 12 x = σ.2.1 12 y then 1 + cmF σ f (σ.2.1 13 x) (σ.2.1 13 y) + cmF σ f (σ.2.1 14 x) (σ.2.1 14 y) else 1
def cm (σ : S0) (x y : Int) : Int := cmF σ (x.toNat + 1) x y
theorem cmF_none (σ : S0) (f : Nat) {x y : Int} (h : x = -1 ∨ y = -1) : cmF σ f x y = 0 := by
  cases f with
  | zero => rfl
  | succ f => exact if_pos h
theorem cmF_fuel {σ : S0} (h : VT σ) : ∀ (f g : Nat) (x y : Int), In (σ.1 3) x → x.toNat + 1 ≤ f → x.toNat + 1 ≤ g → cmF σ f x y = cmF σ g x y
  | 0, _, _, _, _, hf, _ => by omega
  | _ + 1, 0, _, _, _, _, hg => by omega
  | f + 1, g + 1, x, y, hx, hf, hg => by
    unfold cmF
    by_cases c : x = -1 ∨ y = -1
    · rw [if_pos c, if_pos c]
    · rw [if_neg c, if_neg c]
      by_cases k : σ.2.1 12 x = σ.2.1 12 y
      · rw [if_pos k, if_pos k]
        obtain ⟨a1, a2, -⟩ := h.2 x hx
        have e1 : cmF σ f (σ.2.1 13 x) (σ.2.1 13 y) = cmF σ g (σ.2.1 13 x) (σ.2.1 13 y) := by
          rcases a1 with q | q
          · rw [cmF_none σ f (Or.inl q), cmF_none σ g (Or.inl q)]
          · exact cmF_fuel h f g _ _ ⟨q.1, by omega⟩ (by omega) (by omega)
        have e2 : cmF σ f (σ.2.1 14 x) (σ.2.1 14 y) = cmF σ g (σ.2.1 14 x) (σ.2.1 14 y) := by
          rcases a2 with q | q
          · rw [cmF_none σ f (Or.inl q), cmF_none σ g (Or.inl q)]
          · exact cmF_fuel h f g _ _ ⟨q.1, by omega⟩ (by omega) (by omega)
        rw [e1, e2]
      · rw [if_neg k, if_neg k]
theorem cz_none (σ : S0) {x y : Int} (h : x = -1 ∨ y = -1) : cm σ x y = 0 := cmF_none σ _ h
theorem cz_eq {σ : S0} (h : VT σ) {x y : Int} (hx : In (σ.1 3) x) (hy : In (σ.1 3) y) (k : σ.2.1 12 x = σ.2.1 12 y) : cm σ x y = 1 + cm σ (σ.2.1 13 x) (σ.2.1 13 y) + cm σ (σ.2.1 14 x) (σ.2.1 14 y) := by
  obtain ⟨a1, a2, -⟩ := h.2 x hx
  have e1 : cmF σ x.toNat (σ.2.1 13 x) (σ.2.1 13 y) = cm σ (σ.2.1 13 x) (σ.2.1 13 y) := by
    rcases a1 with q | q
    · rw [cmF_none σ _ (Or.inl q), cz_none σ (Or.inl q)]
    · exact cmF_fuel h _ _ _ _ ⟨q.1, by omega⟩ (by omega) (by omega)
  have e2 : cmF σ x.toNat (σ.2.1 14 x) (σ.2.1 14 y) = cm σ (σ.2.1 14 x) (σ.2.1 14 y) := by
    rcases a2 with q | q
    · rw [cmF_none σ _ (Or.inl q), cz_none σ (Or.inl q)]
    · exact cmF_fuel h _ _ _ _ ⟨q.1, by omega⟩ (by omega) (by omega)
  rw [← e1, ← e2]
  show (if x = -1 ∨ y = -1 then 0 else if σ.2.1 12 x = σ.2.1 12 y then 1 + cmF σ x.toNat (σ.2.1 13 x) (σ.2.1 13 y) + cmF σ x.toNat (σ.2.1 14 x) (σ.2.1 14 y) else 1) = _
  rw [if_neg (by omega), if_pos k]
theorem cz_ne {σ : S0} {x y : Int} (hx : In (σ.1 3) x) (hy : In (σ.1 3) y) (k : σ.2.1 12 x ≠ σ.2.1 12 y) : cm σ x y = 1 := by
  unfold cm cmF
  rw [if_neg (by omega), if_neg k]
/-- at least 1, at most the size -/
theorem cz_le {σ : S0} (h : VT σ) : ∀ (m : Nat) (x y : Int), In (σ.1 3) x → In (σ.1 3) y → x.toNat < m → 1 ≤ cm σ x y ∧ cm σ x y ≤ σ.2.2 17 x
  | 0, _, _, _, _, hm => by omega
  | m + 1, x, y, hx, hy, hm => by
    obtain ⟨a1, a2, -, a4, -, -, a7, -⟩ := h.2 x hx
    obtain ⟨b1, b2, -⟩ := h.2 y hy
    by_cases k : σ.2.1 12 x = σ.2.1 12 y
    · rw [cz_eq h hx hy k, a4]
      have arg : ∀ a b, (a = -1 ∨ In x a) → (b = -1 ∨ In y b) → 0 ≤ cm σ a b ∧ cm σ a b ≤ soF (σ.2.2 17) a := fun a b ha hb => by
        by_cases c : a = -1 ∨ b = -1
        · rw [cz_none σ c]
          exact ⟨Int.le_refl _, soF_nonneg (fun q => by have := (h.2 a (by have := ha.resolve_left q; exact ⟨this.1, by omega⟩)).2.2.2.2.2.2.1; omega)⟩
        · have ia := ha.resolve_left (fun q => c (Or.inl q))
          have ib := hb.resolve_left (fun q => c (Or.inr q))
          have q := cz_le h m a b ⟨ia.1, by omega⟩ ⟨ib.1, by omega⟩ (by omega)
          have e : soF (σ.2.2 17) a = σ.2.2 17 a := if_neg (fun q => c (Or.inl q))
          rw [e]
          omega
      have q1 := arg _ _ a1 b1
      have q2 := arg _ _ a2 b2
      omega
    · rw [cz_ne hx hy k]
      omega
theorem sm_upd {f g : Int → Int} {i δ : Int} : ∀ {n : Nat}, 0 ≤ i → i < (n : Int) → (∀ x : Int, 0 ≤ x → x < (n : Int) → x ≠ i → g x = f x) → g i = f i + δ → sm g n = sm f n + δ
  | 0, h0, h1, _, _ => by omega
  | n + 1, h0, h1, h, hi => by
    show sm g n + g n = sm f n + f n + δ
    by_cases e : i = (n : Int)
    · have h2 := sm_congr (f := g) (g := f) (n := n) (fun x a b => h x a (by omega) (by omega))
      rw [e] at hi
      omega
    · have h2 := sm_upd (f := f) (g := g) (i := i) (δ := δ) (n := n) h0 (by omega) (fun x a b c => h x a (by omega) c) hi
      have h3 := h n (by omega) (by omega) (by omega)
      omega
def WW (σ τ : S0) (x y : Int) : Int := if tb (τ.2.2 19 x) y then τ.2.2 (42 + x.toNat) y * cm σ x y else 0
theorem ww_t {σ τ : S0} {x y : Int} (h : met τ x y) : WW σ τ x y = tms τ x y * cm σ x y := if_pos h
theorem ww_f {σ τ : S0} {x y : Int} (h : ¬ met τ x y) : WW σ τ x y = 0 := if_neg h
theorem ww_mee {σ τ : S0} {a b t : Int} (hM : MO τ) (ha : In 40 a) (hb : In 40 b) {x y : Int} (hx : In 40 x) (hy : In 40 y) : (x = a ∧ y = b → WW σ (mee τ a b t) x y = WW σ τ x y + t * cm σ a b) ∧ (¬ (x = a ∧ y = b) → WW σ (mee τ a b t) x y = WW σ τ x y) := by
  have hm := mee_met (σ := τ) (t := t) hM ha hb hx hy
  have ht := mee_tms (σ := τ) (t := t) ha hb (x := x) (y := y) hx
  refine ⟨fun e => ?_, fun e => ?_⟩
  · rw [ww_t (hm.mpr (Or.inr e)), ht, if_pos e]
    obtain ⟨e1, e2⟩ := e
    subst e1; subst e2
    by_cases d : tb (τ.2.2 19 x) y
    · rw [if_pos d, ww_t d, Int.add_mul]
    · rw [if_neg d, ww_f d, Int.zero_add]
  · rw [if_neg e] at ht
    by_cases d : met τ x y
    · rw [ww_t (hm.mpr (Or.inl d)), ww_t d, ht]
    · rw [ww_f (fun q => (hm.mp q).elim d e), ww_f d]
def RWS (σ τ : S0) (x : Int) : Int := sm (fun y => WW σ τ x y) 40
def DSS (σ τ : S0) (n : Nat) : Int := sm (fun x => RWS σ τ x) n
def RRS (σ τ : S0) (a b : Int) : Int := sm (fun y => if b ≤ y then WW σ τ a y else 0) 40
theorem dss_mee {σ τ : S0} {a b t : Int} {n : Nat} (hM : MO τ) (ha : In 40 a) (hb : In 40 b) (hn : n ≤ 40) (han : a < (n : Int)) : DSS σ (mee τ a b t) n = DSS σ τ n + t * cm σ a b := by
  refine sm_upd (i := a) ha.1 han (fun x h0 h1 hx => ?_) ?_
  · exact sm_congr (fun y y0 y1 => (ww_mee hM ha hb ⟨h0, by omega⟩ ⟨y0, by omega⟩).2 (fun q => hx q.1))
  · exact sm_upd (i := b) hb.1 (by omega) (fun y y0 y1 hy => (ww_mee hM ha hb ha ⟨y0, by omega⟩).2 (fun q => hy q.2)) ((ww_mee hM ha hb ha hb).1 ⟨rfl, rfl⟩)
theorem rrs_mee {σ τ : S0} {a b t x c : Int} (hM : MO τ) (ha : In 40 a) (hb : In 40 b) (hx : In 40 x) (hne : x ≠ a) : RRS σ (mee τ a b t) x c = RRS σ τ x c := by
  refine sm_congr (fun y y0 y1 => ?_)
  show (if c ≤ y then WW σ (mee τ a b t) x y else 0) = if c ≤ y then WW σ τ x y else 0
  rw [(ww_mee hM ha hb hx ⟨y0, by omega⟩).2 (fun q => hne q.1)]
theorem rrs_step {σ τ : S0} {a b : Int} (hb : In 40 b) : RRS σ τ a b = RRS σ τ a (b + 1) + WW σ τ a b := by
  refine sm_upd (i := b) hb.1 (by omega) (fun y y0 y1 hy => ?_) ?_
  · show (if b ≤ y then WW σ τ a y else 0) = if b + 1 ≤ y then WW σ τ a y else 0
    by_cases c : b ≤ y
    · rw [if_pos c, if_pos (by omega)]
    · rw [if_neg c, if_neg (by omega)]
  · show (if b ≤ b then WW σ τ a b else 0) = (if b + 1 ≤ b then WW σ τ a b else 0) + WW σ τ a b
    rw [if_pos (Int.le_refl _), if_neg (by omega)]
    omega
theorem rrs_0 {σ τ : S0} {a : Int} : RRS σ τ a 0 = RWS σ τ a := sm_congr (fun y y0 y1 => if_pos y0)
def SD (σ τ : S0) : Prop := ∀ x y, In 40 x → In 40 y → met τ x y → In (σ.1 3) x ∧ In (σ.1 3) y
theorem rrs_end {σ τ : S0} {a : Int} (h : SD σ τ) (ha : In 40 a) : RRS σ τ a (σ.1 3) = 0 := by
  have e : RRS σ τ a (σ.1 3) = sm (fun _ => 0) 40 := sm_congr (fun y y0 y1 => by
    show (if σ.1 3 ≤ y then WW σ τ a y else 0) = 0
    split
    · exact ww_f (fun q => by have := (h a y ha ⟨y0, by omega⟩ q).2; omega)
    · rfl)
  rw [e, sm_const]
  omega
/-- the state of counting: of the row a the pairs from b on are left, and the rows below it -/
def PC (σ : S0) (V a b c : Int) (τ : S0) : Prop := FRp σ τ ∧ Ok τ ∧ MO τ ∧ SD σ τ ∧ c + RRS σ τ a b + DSS σ τ a.toNat = V
theorem pc_no {σ τ : S0} {V a b c : Int} (h : PC σ V a b c τ) (hb : In 40 b) (hm : ¬ met τ a b) : PC σ V a (b + 1) c τ := by
  obtain ⟨h1, h2, h3, h4, h5⟩ := h
  refine ⟨h1, h2, h3, h4, ?_⟩
  rw [rrs_step hb, ww_f hm] at h5
  omega
theorem pc_ne {σ τ : S0} {V a b c : Int} (h : PC σ V a b c τ) (ha : In 40 a) (hb : In 40 b) (hm : met τ a b) (hk : σ.2.1 12 a ≠ σ.2.1 12 b) : PC σ V a (b + 1) (c + tms τ a b) τ := by
  obtain ⟨h1, h2, h3, h4, h5⟩ := h
  obtain ⟨i1, i2⟩ := h4 a b ha hb hm
  refine ⟨h1, h2, h3, h4, ?_⟩
  rw [rrs_step hb, ww_t hm, cz_ne i1 i2 hk] at h5
  omega
theorem pc_mee {σ τ : S0} {V a b c x y w : Int} (h : PC σ V a b c τ) (ha : In 40 a) (hx : In a x) (hy : In 40 y) (hxv : In (σ.1 3) x) (hyv : In (σ.1 3) y) : PC σ (V + w * cm σ x y) a b c (mee τ x y w) ∧ tms (mee τ x y w) a b = tms τ a b := by
  obtain ⟨h1, h2, h3, h4, h5⟩ := h
  have ix : In 40 x := ⟨hx.1, by omega⟩
  refine ⟨⟨h1.trans (mee_frp _ _ _ _), mee_ok h2 h3 (Or.inr ix) (Or.inr hy), mee_mo h3 (Or.inr ix) (Or.inr hy), fun p q hp hq m => ?_, ?_⟩, ?_⟩
  · rcases (mee_met h3 ix hy hp hq).mp m with m | ⟨e1, e2⟩
    · exact h4 p q hp hq m
    · rw [e1, e2]; exact ⟨hxv, hyv⟩
  · rw [rrs_mee h3 ix hy ha (by omega), dss_mee h3 ix hy (by omega) (by omega)]
    omega
  · rw [mee_tms ix hy ha, if_neg (fun q => by omega)]
theorem pc_eq {σ τ : S0} {V a b c : Int} (hT : VT σ) (har : AR σ) (h40 : σ.1 3 ≤ 40) (h : PC σ V a b c τ) (ha : In 40 a) (hb : In 40 b) (hm : met τ a b) (hk : σ.2.1 12 a = σ.2.1 12 b) : PC σ V a (b + 1) (c + tms τ a b) (mea τ a b) := by
  obtain ⟨i1, i2⟩ := h.2.2.2.1 a b ha hb hm
  obtain ⟨g1, g2⟩ := args40 hT har h40 i1 i2 hk
  have h0 := h
  obtain ⟨h1, h2, h3, h4, h5⟩ := h
  have e13 : τ.2.1 13 = σ.2.1 13 := by rw [h1.2.1]
  obtain ⟨W, hW⟩ : ∃ W, W = tms τ a b := ⟨_, rfl⟩
  have p0 : PC σ (V - W * cm σ (σ.2.1 13 a) (σ.2.1 13 b) - W * cm σ (σ.2.1 14 a) (σ.2.1 14 b)) a (b + 1) (c + W) τ := by
    refine ⟨h1, h2, h3, h4, ?_⟩
    rw [rrs_step hb, ww_t hm, cz_eq hT i1 i2 hk, ← hW, Int.mul_add, Int.mul_add] at h5
    omega
  obtain ⟨u1, hu1⟩ : ∃ u, u = mee τ (σ.2.1 13 a) (σ.2.1 13 b) W := ⟨_, rfl⟩
  have s1 : PC σ (V - W * cm σ (σ.2.1 14 a) (σ.2.1 14 b)) a (b + 1) (c + W) u1 ∧ tms u1 a b = W := by
    by_cases q : σ.2.1 13 a = -1
    · rw [hu1, mee_none (Or.inl q)]
      rw [cz_none σ (Or.inl q), Int.mul_zero, Int.sub_zero] at p0
      exact ⟨p0, hW.symm⟩
    · obtain ⟨q1, q2, q3, q4⟩ := g1 q
      have r := pc_mee (w := W) p0 ha q1 q4 ⟨q1.1, by omega⟩ q3
      have r2 := (pc_mee (w := W) h0 ha q1 q4 ⟨q1.1, by omega⟩ q3).2
      rw [hu1]
      refine ⟨?_, r2.trans hW.symm⟩
      have e : V - W * cm σ (σ.2.1 13 a) (σ.2.1 13 b) - W * cm σ (σ.2.1 14 a) (σ.2.1 14 b) + W * cm σ (σ.2.1 13 a) (σ.2.1 13 b) = V - W * cm σ (σ.2.1 14 a) (σ.2.1 14 b) := by omega
      rw [← e]
      exact r.1
  obtain ⟨s1a, s1b⟩ := s1
  have e14 : u1.2.1 14 = σ.2.1 14 := by rw [s1a.1.2.1]
  obtain ⟨u2, hu2⟩ : ∃ u, u = mee u1 (σ.2.1 14 a) (σ.2.1 14 b) W := ⟨_, rfl⟩
  have s2 : PC σ V a (b + 1) (c + W) u2 := by
    by_cases q : σ.2.1 14 a = -1
    · rw [hu2, mee_none (Or.inl q)]
      rw [cz_none σ (Or.inl q), Int.mul_zero, Int.sub_zero] at s1a
      exact s1a
    · obtain ⟨q1, q2, q3, q4⟩ := g2 q
      have r := pc_mee (w := W) s1a ha q1 q4 ⟨q1.1, by omega⟩ q3
      rw [hu2]
      have e : V - W * cm σ (σ.2.1 14 a) (σ.2.1 14 b) + W * cm σ (σ.2.1 14 a) (σ.2.1 14 b) = V := by omega
      rw [e] at r
      exact r.1
  have he : mea τ a b = u2 := by
    unfold mea
    rw [e13, show τ.2.2 (42 + a.toNat) b = W from hW.symm, ← hu1, e14, show u1.2.2 (42 + a.toNat) b = W from s1b, ← hu2]
  rw [he, ← hW]
  exact s2
theorem dss_row {σ τ : S0} {a : Int} (h : 0 ≤ a) : DSS σ τ (a + 1).toNat = DSS σ τ a.toNat + RWS σ τ a := sm_succ _ h
/-- at the start: one pair, met once -/
theorem dss_start {σ : S0} {s t : Int} (ho : Ok σ) (h40 : σ.1 3 ≤ 40) (hs : In (σ.1 3) s) (ht : In (σ.1 3) t) : FRp σ (mee (stM σ 19 (fun _ => 0)) s t 1) ∧ Ok (mee (stM σ 19 (fun _ => 0)) s t 1) ∧ MO (mee (stM σ 19 (fun _ => 0)) s t 1) ∧ SD σ (mee (stM σ 19 (fun _ => 0)) s t 1) ∧ DSS σ (mee (stM σ 19 (fun _ => 0)) s t 1) (s + 1).toNat = cm σ s t := by
  obtain ⟨c1, c2, c3, c4, -⟩ := cb_0 ho h40 hs ht
  refine ⟨c1, c2, c3, fun x y hx hy q => ⟨(c4 x y hx hy q).2.1, (c4 x y hx hy q).2.2.1⟩, ?_⟩
  have e19 : (stM σ 19 (fun _ => 0)).2.2 19 = fun _ => 0 := stM_at _ _ _
  have mo : MO (stM σ 19 (fun _ => 0)) := fun x hx => by
    rw [e19]
    exact ⟨Int.le_refl _, p2_pos 40⟩
  have z : DSS σ (stM σ 19 (fun _ => 0)) (s + 1).toNat = 0 := by
    have e : DSS σ (stM σ 19 (fun _ => 0)) (s + 1).toNat = sm (fun _ => 0) (s + 1).toNat := sm_congr (fun x _ _ => by
      have e2 : RWS σ (stM σ 19 (fun _ => 0)) x = sm (fun _ => 0) 40 := sm_congr (fun y _ _ => ww_f (fun q => by
        have q : tb ((stM σ 19 (fun _ => 0)).2.2 19 x) y := q
        rw [e19] at q
        have q : (0 : Int).toNat.testBit y.toNat = true := q
        rw [show (0 : Int).toNat = 0 from rfl, Nat.zero_testBit] at q
        cases q))
      rw [e2, sm_const]
      rfl)
    rw [e, sm_const]
    omega
  rw [dss_mee mo ⟨hs.1, by omega⟩ ⟨ht.1, by omega⟩ (by omega) (by omega), z]
  omega
