/-! common of the reference -/
theorem stL_stM (σ : S0) (q : Nat) (h : Int → Int) (i v : Int) : stL (stM σ q h) q i v = stM σ q (ui h i v) := by
  have h1 : (stM σ q h).2.2 q = h := by
    show (if q = q then h else σ.2.2 q) = h
    rw [if_pos rfl]
  unfold stL
  rw [h1]
  have e : (fun k => if k = q then ui h i v else (stM σ q h).2.2 k) = fun k => if k = q then ui h i v else σ.2.2 k := by
    funext k
    by_cases c : k = q
    · rw [if_pos c, if_pos c]
    · rw [if_neg c, if_neg c]
      show (if k = q then h else σ.2.2 k) = _
      rw [if_neg c]
  show (σ.1, σ.2.1, (fun k => if k = q then ui h i v else (stM σ q h).2.2 k)) = _
  rw [e]
  rfl
abbrev CM (τ : S0) (x y : Int) : Int := cm τ (τ.2.1 11 x) (τ.2.1 11 y)
def SJ (τ : S0) (S : Int → Int) : Prop := (∀ x y, In (τ.1 0) x → In (τ.1 0) y → S (40 * x + y) = 0 ∨ S (40 * x + y) = CM τ x y) ∧ ∀ i, RgL (S i)
def STK (τ σ : S0) (S : Int → Int) (x y : Int) : Prop := σ.2.1 8 x ≠ -1 ∧ σ.2.1 8 y ≠ -1 ∧ τ.2.1 5 (σ.2.1 8 x) = τ.2.1 5 (σ.2.1 8 y) ∧ ((τ.2.1 6 (σ.2.1 8 x) ≠ -1 ∧ S (40 * τ.2.1 6 (σ.2.1 8 x) + τ.2.1 6 (σ.2.1 8 y)) = 0) ∨ (τ.2.1 7 (σ.2.1 8 x) ≠ -1 ∧ S (40 * τ.2.1 7 (σ.2.1 8 x) + τ.2.1 7 (σ.2.1 8 y)) = 0))
section MCO
variable {τ σ : S0}
theorem cm_1 (h : REL τ σ) (hp : PRE τ σ) {s t : Int} (is : In (τ.1 0) s) (it : In (τ.1 0) t) (hk : σ.2.1 8 s = -1 ∨ σ.2.1 8 t = -1 ∨ τ.2.1 5 (σ.2.1 8 s) ≠ τ.2.1 5 (σ.2.1 8 t) ∨ τ.2.1 6 (σ.2.1 8 s) = -1) : CM τ s t = 1 := by
  obtain ⟨nv, hv, kn, -⟩ := rel_nv h hp
  have T := h.1.1.2.1
  have hV := h.1.2.1
  obtain ⟨a1, a2⟩ := nv_all nv hv is
  obtain ⟨b1, b2⟩ := nv_all nv hv it
  by_cases k : τ.2.1 12 (τ.2.1 11 s) = τ.2.1 12 (τ.2.1 11 t)
  · show cm τ _ _ = 1
    rw [cz_eq hV a1 b1 k]
    have e : τ.2.1 13 (τ.2.1 11 s) = -1 ∧ τ.2.1 14 (τ.2.1 11 s) = -1 := by
      rcases a2 with ⟨a2, a3⟩ | ⟨a2, a3, a4, a5, a6⟩
      · exact (hV.2 _ a1).2.2.1 a3
      · rcases b2 with ⟨b2, b3⟩ | ⟨b2, b3, b4, b5, b6⟩
        · rw [a4, b3] at k
          exact absurd k a3
        · rw [a4, b4] at k
          have f := (hk.resolve_left (fun q => by omega)).resolve_left (fun q => by omega)
          have f := f.resolve_left (fun q => q k)
          have t5 := (T.2.2 _ a2).2.2.2.2 a3
          have f2 : τ.2.1 7 (σ.2.1 8 s) = -1 := t5.2.mpr (by have := t5.1.mp f; omega)
          exact ⟨a5.trans (if_pos f), a6.trans (if_pos f2)⟩
    rw [e.1, e.2, cz_none τ (Or.inl rfl), cz_none τ (Or.inl rfl)]
    rfl
  · exact cz_ne a1 b1 k
theorem cm_2 (h : REL τ σ) (hp : PRE τ σ) {s t : Int} (is : In (τ.1 0) s) (it : In (τ.1 0) t) (ha : σ.2.1 8 s ≠ -1) (hb : σ.2.1 8 t ≠ -1) (hk : τ.2.1 5 (σ.2.1 8 s) = τ.2.1 5 (σ.2.1 8 t)) (hf : τ.2.1 6 (σ.2.1 8 s) ≠ -1) :
    CM τ s t = 1 + CM τ (τ.2.1 6 (σ.2.1 8 s)) (τ.2.1 6 (σ.2.1 8 t)) + (if τ.2.1 7 (σ.2.1 8 s) = -1 then 0 else CM τ (τ.2.1 7 (σ.2.1 8 s)) (τ.2.1 7 (σ.2.1 8 t))) := by
  obtain ⟨nv, hv, kn, -⟩ := rel_nv h hp
  have T := h.1.1.2.1
  have hV := h.1.2.1
  obtain ⟨a1, a2⟩ := nv_all nv hv is
  obtain ⟨b1, b2⟩ := nv_all nv hv it
  obtain ⟨a2, a3, a4, a5, a6⟩ := a2.resolve_left (fun z => ha z.1)
  obtain ⟨b2, b3, b4, b5, b6⟩ := b2.resolve_left (fun z => hb z.1)
  have fe := T.fa_eq a2 b2 a3 hk
  have hf' : τ.2.1 6 (σ.2.1 8 t) ≠ -1 := fun q => hf (fe.1.mpr q)
  show cm τ _ _ = _
  rw [cz_eq hV a1 b1 (by rw [a4, b4, hk]), a5, b5, a6, b6]
  have e1 : vnF (τ.2.1 11) (τ.2.1 6 (σ.2.1 8 s)) = τ.2.1 11 (τ.2.1 6 (σ.2.1 8 s)) := if_neg hf
  have e2 : vnF (τ.2.1 11) (τ.2.1 6 (σ.2.1 8 t)) = τ.2.1 11 (τ.2.1 6 (σ.2.1 8 t)) := if_neg hf'
  rw [e1, e2]
  by_cases c : τ.2.1 7 (σ.2.1 8 s) = -1
  · have e3 : vnF (τ.2.1 11) (τ.2.1 7 (σ.2.1 8 s)) = -1 := if_pos c
    rw [e3, cz_none τ (Or.inl rfl), if_pos c]
  · have c' : τ.2.1 7 (σ.2.1 8 t) ≠ -1 := fun q => c (fe.2.mpr q)
    have e3 : vnF (τ.2.1 11) (τ.2.1 7 (σ.2.1 8 s)) = τ.2.1 11 (τ.2.1 7 (σ.2.1 8 s)) := if_neg c
    have e4 : vnF (τ.2.1 11) (τ.2.1 7 (σ.2.1 8 t)) = τ.2.1 11 (τ.2.1 7 (σ.2.1 8 t)) := if_neg c'
    rw [e3, e4, if_neg c]
theorem cm_b (h : REL τ σ) (hp : PRE τ σ) {s t : Int} (is : In (τ.1 0) s) (it : In (τ.1 0) t) : 1 ≤ CM τ s t ∧ CM τ s t < 1099511627776 := by
  obtain ⟨-, -, kn, -⟩ := rel_nv h hp
  have hV := h.1.2.1
  have q := cz_le hV _ _ _ (kn s is).1 (kn t it).1 (Nat.lt_succ_self _)
  have q2 := vt_lt40 hV h.1.2.2.2.1 (kn s is).1
  show 1 ≤ cm τ _ _ ∧ cm τ _ _ < _
  omega
theorem stk_all (h : REL τ σ) (hp : PRE τ σ) {S : Int → Int} (hS : ∀ x y, In (τ.1 0) x → In (τ.1 0) y → S (40 * x + y) = 0 → STK τ σ S x y) : ∀ (m : Nat) (x y : Int), In (τ.1 0) x → In (τ.1 0) y → (τ.2.1 11 x).toNat < m → S (40 * x + y) ≠ 0
  | 0, _, _, _, _, hm => by omega
  | m + 1, x, y, hx, hy, hm => fun q => by
    obtain ⟨q1, q2, q3, q4⟩ := hS x y hx hy q
    obtain ⟨nv, hv, kn, -⟩ := rel_nv h hp
    have T := h.1.1.2.1
    obtain ⟨a1, a2⟩ := nv_all nv hv hx
    obtain ⟨b1, b2⟩ := nv_all nv hv hy
    obtain ⟨a2, a3, a4, a5, a6⟩ := a2.resolve_left (fun z => q1 z.1)
    obtain ⟨b2, b3, b4, b5, b6⟩ := b2.resolve_left (fun z => q2 z.1)
    have fe := T.fa_eq a2 b2 a3 q3
    obtain ⟨d1, d2, -⟩ := h.1.2.1.2 _ a1
    rcases q4 with ⟨c, z⟩ | ⟨c, z⟩
    · have i1 := T.fa_in a2 c
      rw [a5.trans (if_neg c)] at d1
      have d1 := d1.resolve_left (hv _ i1)
      exact stk_all h hp hS m _ _ i1 (T.fa_in b2 (fun w => c (fe.1.mpr w))) (by omega) z
    · have i1 := T.sa_in a2 c
      rw [a6.trans (if_neg c)] at d2
      have d2 := d2.resolve_left (hv _ i1)
      exact stk_all h hp hS m _ _ i1 (T.sa_in b2 (fun w => c (fe.2.mpr w))) (by omega) z
theorem rel_M14 {S : Int → Int} (h : REL τ σ) (hS : ∀ i, RgL (S i)) : REL τ (stM σ 14 S) := by
  obtain ⟨h1, h2, h3, h4, h5, h6⟩ := h
  exact ⟨h1, ok_stM h2 (fun _ => hS), h3, h4, h5, h6⟩
end MCO
def csn (S : Int → Int) : Int := sm (fun k => bz (S k ≠ 0)) 1600
theorem csn_le (S : Int → Int) : 0 ≤ csn S ∧ csn S ≤ 1600 := by
  constructor
  · exact sm_nonneg (fun x _ _ => (bz_01 _).1)
  · have h1 := sm_le (f := fun k => bz (S k ≠ 0)) (g := fun _ => 1) (n := 1600) (fun x _ _ => (bz_01 _).2)
    rw [sm_const] at h1
    unfold csn
    omega
theorem csn_new {S : Int → Int} {i v : Int} (h0 : 0 ≤ i) (h1 : i < 1600) (h : S i = 0) (hv : v ≠ 0) : csn S + 1 = csn (ui S i v) := by
  refine sm_dec (i := i) h0 (by omega) (fun k _ _ hk => by rw [ui_ne _ _ hk]) ?_
  show bz (S i ≠ 0) + 1 = bz (ui S i v i ≠ 0)
  rw [ui_at, bz_t hv, bz_f (fun q => q h)]
  rfl
/-- one round: the pairs up to (x, y) -/
def CR9 (τ σ : S0) (S1 S : Int → Int) (x y : Int) : Prop := SJ τ S ∧ (csn S1 < csn S ∨ (S = S1 ∧ ∀ a b, In (τ.1 0) a → In (τ.1 0) b → (a < x ∨ (a = x ∧ b < y)) → S1 (40 * a + b) = 0 → STK τ σ S1 a b))
theorem cr9_row {τ σ : S0} {S1 S : Int → Int} {x : Int} (h : CR9 τ σ S1 S x (τ.1 0)) : CR9 τ σ S1 S (x + 1) 0 := ⟨h.1, h.2.imp id (fun q => ⟨q.1, fun a b ha hb ho => q.2 a b ha hb (by omega)⟩)⟩
theorem cr9_old {τ σ : S0} {S1 S : Int → Int} {x y : Int} (h : CR9 τ σ S1 S x y) (hne : S (40 * x + y) ≠ 0) : CR9 τ σ S1 S x (y + 1) := ⟨h.1, h.2.imp id (fun q => ⟨q.1, fun a b ha hb ho hz => by
  by_cases c : a = x ∧ b = y
  · rw [c.1, c.2, ← q.1] at hz
    exact absurd hz hne
  · exact q.2 a b ha hb (by omega) hz⟩)⟩
theorem cr9_new {τ σ : S0} {S1 S : Int → Int} {x y z : Int} (n40 : τ.1 0 ≤ 40) (hx : In (τ.1 0) x) (hy : In (τ.1 0) y) (h : CR9 τ σ S1 S x y) (h0 : S (40 * x + y) = 0) (hb : 1 ≤ CM τ x y ∧ CM τ x y < 1099511627776) (hz : CM τ x y = z ∨ (z = 0 ∧ STK τ σ S x y)) : CR9 τ σ S1 (ui S (40 * x + y) z) x (y + 1) := by
  obtain ⟨⟨s1, s2⟩, h2⟩ := h
  have zr : RgL z := by rcases hz with q | q <;> exact ⟨by omega, by omega⟩
  refine ⟨⟨fun a b ha hb' => ?_, fun i => ?_⟩, ?_⟩
  · by_cases c : 40 * a + b = 40 * x + y
    · have e1 : a = x := by omega
      have e2 : b = y := by omega
      rw [c, ui_at, e1, e2]
      rcases hz with q | q
      · exact Or.inr q.symm
      · exact Or.inl q.1
    · rw [ui_ne _ _ c]
      exact s1 a b ha hb'
  · unfold ui
    split
    · exact zr
    · exact s2 i
  · rcases hz with q | ⟨q1, q2⟩
    · have c := csn_new (v := z) (i := 40 * x + y) (by omega) (by omega) h0 (by omega)
      left
      rcases h2 with h2 | ⟨h2, -⟩
      · omega
      · rw [← h2]; omega
    · have e : ui S (40 * x + y) z = S := by
        rw [q1, ← h0]
        exact ui_self S _
      rw [e]
      refine h2.imp id (fun w => ⟨w.1, fun a b ha hb' ho hzz => ?_⟩)
      by_cases c : a = x ∧ b = y
      · rw [c.1, c.2, ← w.1]
        exact q2
      · exact w.2 a b ha hb' (by omega) hzz
