/-! two values side by side -/
abbrev met (τ : S0) (x y : Int) : Prop := tb (τ.2.2 19 x) y
abbrev tms (τ : S0) (x y : Int) : Int := τ.2.2 (42 + x.toNat) y
def mee (σ : S0) (a b t : Int) : S0 := if a = -1 ∨ b = -1 then σ else if tb (σ.2.2 19 a) b then stL σ (42 + a.toNat) b (σ.2.2 (42 + a.toNat) b + t) else stL (stL σ 19 a (orI (σ.2.2 19 a) (2 ^ b.toNat))) (42 + a.toNat) b t
def mea (σ : S0) (a b : Int) : S0 :=
  mee (mee σ (σ.2.1 13 a) (σ.2.1 13 b) (σ.2.2 (42 + a.toNat) b)) ((mee σ (σ.2.1 13 a) (σ.2.1 13 b) (σ.2.2 (42 + a.toNat) b)).2.1 14 a) ((mee σ (σ.2.1 13 a) (σ.2.1 13 b) (σ.2.2 (42 + a.toNat) b)).2.1 14 b) ((mee σ (σ.2.1 13 a) (σ.2.1 13 b) (σ.2.2 (42 + a.toNat) b)).2.2 (42 + a.toNat) b)
def FRp (σ τ : S0) : Prop := τ.1 = σ.1 ∧ τ.2.1 = σ.2.1 ∧ (∀ j, j < 42 → j ≠ 19 → τ.2.2 j = σ.2.2 j)
theorem FRp.rfl {σ : S0} : FRp σ σ := ⟨_root_.rfl, _root_.rfl, fun _ _ _ => _root_.rfl⟩
theorem FRp.trans {σ τ u : S0} (h : FRp σ τ) (g : FRp τ u) : FRp σ u := ⟨g.1.trans h.1, g.2.1.trans h.2.1, fun j a b => (g.2.2 j a b).trans (h.2.2 j a b)⟩
def MO (τ : S0) : Prop := ∀ x, In 40 x → 0 ≤ τ.2.2 19 x ∧ τ.2.2 19 x < p2 40
theorem stL_at (σ : S0) (q : Nat) (i v : Int) : (stL σ q i v).2.2 q = ui (σ.2.2 q) i v := by
  show (if q = q then _ else σ.2.2 q) = _
  rw [if_pos rfl]
theorem stL_ne (σ : S0) {q k : Nat} (i v : Int) (h : k ≠ q) : (stL σ q i v).2.2 k = σ.2.2 k := by
  show (if k = q then _ else σ.2.2 k) = _
  rw [if_neg h]
theorem or_bit {m b : Int} (hb : In 40 b) (hm : 0 ≤ m ∧ m < p2 40) : (0 ≤ orI m (2 ^ b.toNat) ∧ orI m (2 ^ b.toNat) < p2 40) ∧ ∀ y, In 40 y → (tb (orI m (2 ^ b.toNat)) y ↔ tb m y ∨ y = b) := by
  have e : ((2 : Int) ^ b.toNat).toNat = 2 ^ b.toNat := by
    rw [p2_pow]
    unfold p2
    exact Int.toNat_natCast _
  have hlt : (2 : Int) ^ b.toNat < p2 40 := by
    rw [p2_pow]
    have q := p2_le (show b.toNat + 1 ≤ 40 by omega)
    rw [p2_succ] at q
    have q2 := p2_pos b.toNat
    omega
  refine ⟨orI_lt hm.2 hlt, fun y hy => ?_⟩
  show (orI m (2 ^ b.toNat)).toNat.testBit y.toNat = true ↔ _
  unfold orI
  rw [Int.toNat_natCast, e, Nat.testBit_or, Nat.testBit_two_pow, Bool.or_eq_true, decide_eq_true_eq]
  constructor
  · rintro (q | q)
    · exact Or.inl q
    · exact Or.inr (by omega)
  · rintro (q | q)
    · exact Or.inl q
    · exact Or.inr (by rw [q])
theorem mee_none {σ : S0} {a b t : Int} (h : a = -1 ∨ b = -1) : mee σ a b t = σ := if_pos h
theorem mee_frp (σ : S0) (a b t : Int) : FRp σ (mee σ a b t) := by
  unfold mee
  by_cases c : a = -1 ∨ b = -1
  · rw [if_pos c]; exact FRp.rfl
  · rw [if_neg c]
    by_cases d : tb (σ.2.2 19 a) b
    · rw [if_pos d]
      exact ⟨rfl, rfl, fun j h1 h2 => stL_ne _ _ _ (by omega)⟩
    · rw [if_neg d]
      exact ⟨rfl, rfl, fun j h1 h2 => by rw [stL_ne _ _ _ (by omega), stL_ne _ _ _ h2]⟩
theorem mee_19 {σ : S0} {a b t : Int} (ha : In 40 a) (hb : In 40 b) : (mee σ a b t).2.2 19 = if tb (σ.2.2 19 a) b then σ.2.2 19 else ui (σ.2.2 19) a (orI (σ.2.2 19 a) (2 ^ b.toNat)) := by
  unfold mee
  rw [if_neg (by omega)]
  by_cases d : tb (σ.2.2 19 a) b
  · rw [if_pos d, if_pos d, stL_ne _ _ _ (by omega)]
  · rw [if_neg d, if_neg d, stL_ne _ _ _ (by omega), stL_at]
theorem mee_mo {σ : S0} {a b t : Int} (h : MO σ) (ha : a = -1 ∨ In 40 a) (hb : b = -1 ∨ In 40 b) : MO (mee σ a b t) := by
  by_cases c : a = -1 ∨ b = -1
  · rw [mee_none c]; exact h
  · have ha' : In 40 a := ha.resolve_left (fun q => c (Or.inl q))
    have hb' : In 40 b := hb.resolve_left (fun q => c (Or.inr q))
    intro x hx
    rw [mee_19 ha' hb']
    split
    · exact h x hx
    · by_cases e : x = a
      · rw [e, ui_at]; exact (or_bit hb' (h a ha')).1
      · rw [ui_ne _ _ e]; exact h x hx
theorem mee_ok {σ : S0} {a b t : Int} (h : Ok σ) (hm : MO σ) (ha : a = -1 ∨ In 40 a) (hb : b = -1 ∨ In 40 b) : Ok (mee σ a b t) := by
  unfold mee
  by_cases c : a = -1 ∨ b = -1
  · rw [if_pos c]; exact h
  · rw [if_neg c]
    have ha' : In 40 a := ha.resolve_left (fun q => c (Or.inl q))
    have hb' : In 40 b := hb.resolve_left (fun q => c (Or.inr q))
    split
    · exact ok_stT h (by omega)
    · have q := (or_bit hb' (hm a ha')).1
      rw [p2_40] at q
      exact ok_stT (ok_stL h ⟨by omega, by omega⟩) (by omega)
theorem mee_met {σ : S0} {a b t : Int} (h : MO σ) (ha : In 40 a) (hb : In 40 b) {x y : Int} (hx : In 40 x) (hy : In 40 y) : met (mee σ a b t) x y ↔ met σ x y ∨ (x = a ∧ y = b) := by
  unfold met
  rw [mee_19 ha hb]
  by_cases d : tb (σ.2.2 19 a) b
  · rw [if_pos d]
    constructor
    · exact Or.inl
    · rintro (q | ⟨q1, q2⟩)
      · exact q
      · rw [q1, q2]; exact d
  · rw [if_neg d]
    by_cases e : x = a
    · subst e
      rw [ui_at, (or_bit hb (h x hx)).2 y hy]
      constructor
      · rintro (q | q)
        · exact Or.inl q
        · exact Or.inr ⟨rfl, q⟩
      · rintro (q | q)
        · exact Or.inl q
        · exact Or.inr q.2
    · rw [ui_ne _ _ e]
      constructor
      · exact Or.inl
      · rintro (q | q)
        · exact q
        · exact absurd q.1 e
theorem mee_tms {σ : S0} {a b t : Int} (ha : In 40 a) (hb : In 40 b) {x y : Int} (hx : In 40 x) : tms (mee σ a b t) x y = if x = a ∧ y = b then (if tb (σ.2.2 19 a) b then tms σ a b + t else t) else tms σ x y := by
  unfold tms mee
  rw [if_neg (by omega)]
  by_cases e : x = a
  · subst e
    by_cases d : tb (σ.2.2 19 x) b
    · rw [if_pos d, if_pos d, stL_at]
      by_cases c : y = b
      · rw [c, ui_at, if_pos ⟨rfl, rfl⟩]
      · rw [ui_ne _ _ c, if_neg (fun q => c q.2)]
    · rw [if_neg d, if_neg d, stL_at, stL_ne _ _ _ (by omega)]
      by_cases c : y = b
      · rw [c, ui_at, if_pos ⟨rfl, rfl⟩]
      · rw [ui_ne _ _ c, if_neg (fun q => c q.2)]
  · have n1 : 42 + x.toNat ≠ 42 + a.toNat := by omega
    have e2 : ¬ (x = a ∧ y = b) := fun q => e q.1
    rw [if_neg e2]
    by_cases d : tb (σ.2.2 19 a) b
    · rw [if_pos d, stL_ne _ _ _ n1]
    · rw [if_neg d, stL_ne _ _ _ n1, stL_ne _ _ _ (by omega)]
/-- the pairs that are met, going down -/
def Rch (σ : S0) (s t x y : Int) : Prop := ∀ P : Int → Int → Prop, P s t → (∀ a b, P a b → σ.2.1 12 a ≠ -1 → σ.2.1 12 a = σ.2.1 12 b → (σ.2.1 13 a ≠ -1 → P (σ.2.1 13 a) (σ.2.1 13 b)) ∧ (σ.2.1 14 a ≠ -1 → P (σ.2.1 14 a) (σ.2.1 14 b))) → P x y
def MatchOK (σ : S0) (s t : Int) : Prop := (∀ x y, Rch σ s t x y → σ.2.1 12 x = -1 ∨ σ.2.1 12 x = σ.2.1 12 y) ∧ (∀ x y y', Rch σ s t x y → Rch σ s t x y' → σ.2.1 12 x = -1 → y = y')
/-- the same symbol: as many arguments -/
def AR (σ : S0) : Prop := ∀ v v', In (σ.1 3) v → In (σ.1 3) v' → σ.2.1 12 v = σ.2.1 12 v' → (σ.2.1 13 v = -1 ↔ σ.2.1 13 v' = -1) ∧ (σ.2.1 14 v = -1 ↔ σ.2.1 14 v' = -1)
theorem ar_of {n : Int} {kd fa sa row : Int → Int} {R : Int → Int → Prop} {σ : S0} (T : Tb n kd fa sa) (hR : RowC n kd fa sa row R) (h : VF n kd fa sa row σ) : AR σ := by
  intro v v' hv hv' e
  obtain ⟨v1, -, -, v4, -, -, v7, -⟩ := h
  by_cases c : σ.2.1 12 v = -1
  · have q1 := (v1.2 v hv).2.2.1 c
    have q2 := (v1.2 v' hv').2.2.1 (e ▸ c)
    rw [q1.1, q1.2, q2.1, q2.2]
    exact ⟨Iff.rfl, Iff.rfl⟩
  · obtain ⟨x1, x2, -⟩ := v7 v hv
    obtain ⟨y1, y2, -⟩ := v7 v' hv'
    obtain ⟨-, a2, a3, a4⟩ := v4 _ x1
    obtain ⟨-, b2, b3, b4⟩ := v4 _ y1
    rw [x2] at a2 a3 a4
    rw [y2] at b2 b3 b4
    have rx := (hR.1 _ x1).1
    have ry := (hR.1 _ y1).1
    have hk : kd (row (σ.2.1 16 v)) = kd (row (σ.2.1 16 v')) := by rw [← a2, ← b2, e]
    have fe := T.fa_eq rx ry (by rw [← a2]; exact c) hk
    have none : ∀ a, (a = -1 ∨ In n a) → (vnF (σ.2.1 11) a = -1 ↔ a = -1) := fun a ha => by
      unfold vnF
      by_cases q : a = -1
      · rw [if_pos q]; exact ⟨fun _ => q, fun _ => rfl⟩
      · rw [if_neg q]
        have := (v4 a (ha.resolve_left q)).1
        exact ⟨fun z => by omega, fun z => absurd z q⟩
    have fi : ∀ x, In n x → (fa x = -1 ∨ In n (fa x)) := fun x hx => by
      by_cases q : fa x = -1
      · exact Or.inl q
      · exact Or.inr (T.fa_in hx q)
    have si : ∀ x, In n x → (sa x = -1 ∨ In n (sa x)) := fun x hx => by
      by_cases q : sa x = -1
      · exact Or.inl q
      · exact Or.inr (T.sa_in hx q)
    rw [a3, a4, b3, b4, none _ (fi _ rx), none _ (fi _ ry), none _ (si _ rx), none _ (si _ ry)]
    exact fe
theorem pop_le1 {m : Int} (h : pop m ≤ 1) {y y' : Int} (hy : In 40 y) (hy' : In 40 y') (h1 : tb m y) (h2 : tb m y') : y = y' := by
  refine Classical.byContradiction fun c => ?_
  have q1 := sm_dec (f := fun i => if i = y then 0 else bz (m.toNat.testBit i.toNat = true)) (g := fun i => bz (m.toNat.testBit i.toNat = true)) (i := y) (n := 40) hy.1 (by omega) (fun x _ _ hx => if_neg hx) (by
    show (if y = y then (0 : Int) else _) + 1 = _
    rw [if_pos rfl, bz_t h1]
    rfl)
  have q2 : 1 ≤ sm (fun i => if i = y then 0 else bz (m.toNat.testBit i.toNat = true)) 40 := sm_pos (i := y') (fun x _ _ => by
    show 0 ≤ if x = y then (0 : Int) else _
    split
    · omega
    · exact (bz_01 _).1) hy'.1 (by omega) (by
    show 1 ≤ if y' = y then (0 : Int) else _
    rw [if_neg (fun q => c q.symm), bz_t h2]
    omega)
  unfold pop at h
  omega
theorem pop_gt1 {m : Int} (h : 1 < pop m) : ∃ y y', In 40 y ∧ In 40 y' ∧ tb m y ∧ tb m y' ∧ y ≠ y' := by
  refine Classical.byContradiction fun c => ?_
  by_cases e : ∃ y, In 40 y ∧ tb m y
  · obtain ⟨y, hy, h1⟩ := e
    have q := sm_dec (f := fun _ => 0) (g := fun i => bz (m.toNat.testBit i.toNat = true)) (i := y) (n := 40) hy.1 (by omega) (fun x x0 x1 hx => (bz_f (fun q => c ⟨y, x, hy, ⟨x0, by omega⟩, h1, q, Ne.symm hx⟩)).symm) (by
      show (0 : Int) + 1 = bz _
      rw [bz_t h1]
      rfl)
    rw [sm_const] at q
    unfold pop at h
    omega
  · have q : sm (fun i => bz (m.toNat.testBit i.toNat = true)) 40 = sm (fun _ => 0) 40 := sm_congr (fun x x0 x1 => bz_f (fun q => e ⟨x, ⟨x0, by omega⟩, q⟩))
    rw [sm_const] at q
    unfold pop at h
    omega
theorem pop_nn (m : Int) : 0 ≤ pop m ∧ pop m ≤ 40 := by
  constructor
  · exact sm_nonneg (fun x _ _ => (bz_01 _).1)
  · have h1 := sm_le (f := fun i => bz (m.toNat.testBit i.toNat = true)) (g := fun _ => 1) (n := 40) (fun x _ _ => (bz_01 _).2)
    rw [sm_const] at h1
    unfold pop
    omega
