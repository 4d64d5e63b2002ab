/-! the reference beside the class -/
theorem sm_bij {A : Int → Prop} [DecidablePred A] {f : Int → Int} {m : Nat} : ∀ {n : Nat} {B : Int → Prop} [DecidablePred B], (∀ x : Int, 0 ≤ x → x < (n : Int) → A x → (0 ≤ f x ∧ f x < (m : Int)) ∧ B (f x)) → (∀ x y : Int, 0 ≤ x → x < (n : Int) → 0 ≤ y → y < (n : Int) → A x → A y → f x = f y → x = y) → (∀ b : Int, 0 ≤ b → b < (m : Int) → B b → ∃ x : Int, 0 ≤ x ∧ x < (n : Int) ∧ A x ∧ f x = b) → sm (fun x => bz (A x)) n = sm (fun y => bz (B y)) m
  | 0, B, _, h1, h2, h3 => by
    show 0 = _
    rw [sm_congr (g := fun _ => 0) (fun b b0 b1 => bz_f (fun q => by obtain ⟨x, x0, x1, -⟩ := h3 b b0 b1 q; omega)), sm_const]
    omega
  | n + 1, B, _, h1, h2, h3 => by
    show sm (fun x => bz (A x)) n + bz (A (n : Int)) = _
    by_cases c : A (n : Int)
    · obtain ⟨⟨f0, f1⟩, f2⟩ := h1 n (by omega) (by omega) c
      have ih := sm_bij (A := A) (f := f) (m := m) (n := n) (B := fun y => B y ∧ y ≠ f n) (fun x x0 x1 hx => ⟨(h1 x x0 (by omega) hx).1, (h1 x x0 (by omega) hx).2, fun q => by
        have := h2 x n x0 (by omega) (by omega) (by omega) hx c q
        omega⟩) (fun x y x0 x1 y0 y1 => h2 x y x0 (by omega) y0 (by omega)) (fun b b0 b1 hb => by
        obtain ⟨x, x0, x1, x2, x3⟩ := h3 b b0 b1 hb.1
        refine ⟨x, x0, ?_, x2, x3⟩
        by_cases q : x = (n : Int)
        · exact absurd (by rw [← x3, q]) hb.2
        · omega)
      rw [ih, bz_t c]
      refine sm_dec (i := f n) f0 f1 (fun b _ _ hb => bz_congr ⟨fun q => q.1, fun q => ⟨q, hb⟩⟩) ?_
      show bz (B (f n) ∧ f n ≠ f n) + 1 = bz (B (f n))
      rw [bz_t f2, bz_f (fun q => q.2 rfl)]
      rfl
    · rw [bz_f c, Int.add_zero]
      refine sm_bij (A := A) (f := f) (m := m) (n := n) (B := B) (fun x x0 x1 => h1 x x0 (by omega)) (fun x y x0 x1 y0 y1 => h2 x y x0 (by omega) y0 (by omega)) (fun b b0 b1 hb => ?_)
      obtain ⟨x, x0, x1, x2, x3⟩ := h3 b b0 b1 hb
      refine ⟨x, x0, ?_, x2, x3⟩
      by_cases q : x = (n : Int)
      · exact absurd (by rw [← q]; exact x2) c
      · omega
/-- what a value holds are variables -/
theorem holds_var {w : S0} (hV : VT w) (h40 : w.1 3 ≤ 40) : ∀ (m : Nat) (v : Int), In (w.1 3) v → v.toNat < m → ∀ b, 0 ≤ b → tb (w.2.2 18 v) b → In (w.1 3) b ∧ w.2.1 12 b = -1
  | 0, _, _, hm, _, _, _ => by omega
  | m + 1, v, hv, hm, b, hb0, hb => by
    obtain ⟨a1, a2, -, -, -, a6, -⟩ := hV.2 v hv
    rw [a6] at hb
    by_cases c : w.2.1 12 v = -1
    · rw [if_pos c] at hb
      rw [tb_p2 hv.1 hb0] at hb
      rw [← hb]
      exact ⟨hv, c⟩
    · rw [if_neg c, tb_or] at hb
      have key : ∀ a, (a = -1 ∨ In v a) → tb (soF (w.2.2 18) a) b → In (w.1 3) b ∧ w.2.1 12 b = -1 := fun a ha q => by
        by_cases z : a = -1
        · have e : soF (w.2.2 18) a = 0 := if_pos z
          rw [e] at q
          exact absurd q (tb_0 b)
        · have e : soF (w.2.2 18) a = w.2.2 18 a := if_neg z
          rw [e] at q
          have ha := ha.resolve_left z
          exact holds_var hV h40 m a ⟨ha.1, by omega⟩ (by omega) b hb0 q
      rcases hb with hb | hb
      · exact key _ a1 hb
      · exact key _ a2 hb
def REL (τ σ : S0) : Prop := INV τ (σ.2.1 5) (σ.2.1 6) ∧ Ok σ ∧ RT σ (τ.1 0) (τ.2.1 5) (τ.2.1 6) (τ.2.1 7) ∧ σ.1 3 = τ.1 2 ∧ σ.1 1 = τ.1 5 ∧ (σ.1 4 = 0 ∨ (σ.1 4 = 1 ∧ PREP σ (τ.2.1 5) (τ.2.1 6) (τ.2.1 7) τ (τ.2.1 11)))
abbrev PRE (τ σ : S0) : Prop := PREP σ (τ.2.1 5) (τ.2.1 6) (τ.2.1 7) τ (τ.2.1 11)
theorem prep_0 {σ : S0} {kd fa sa : Int → Int} {w : S0} {val : Int → Int} {v : Int} (h : PREP σ kd fa sa w val) : PREP (stI σ 0 v) kd fa sa w val := h
theorem rel_0 {τ σ : S0} {v : Int} (h : REL τ σ) (hv : Rg v) : REL τ (stI σ 0 v) := by
  obtain ⟨h1, h2, h3, h4, h5, h6⟩ := h
  exact ⟨h1, ok_stI h2 hv, h3, h4, h5, h6⟩
/-- what preparing wants -/
theorem rel_T {τ σ : S0} (h : REL τ σ) : Tb (σ.1 2) (τ.2.1 5) (τ.2.1 6) (τ.2.1 7) ∧ RT σ (σ.1 2) (τ.2.1 5) (τ.2.1 6) (τ.2.1 7) ∧ 0 ≤ σ.1 3 ∧ σ.1 3 ≤ 20 ∧ (∀ i, 0 ≤ i → i < σ.1 3 → In (σ.1 2) (σ.2.1 5 i) ∧ In (σ.1 2) (σ.2.1 6 i)) ∧ (RowC (σ.1 2) (τ.2.1 5) (τ.2.1 6) (τ.2.1 7) (kr τ) (RR σ (τ.2.1 5) (τ.2.1 6) (τ.2.1 7)) ∧ KV (σ.1 2) (τ.2.1 5) (τ.2.1 6) (τ.2.1 7) (kr τ) τ (τ.2.1 11)) ∧ (∀ x, In (σ.1 2) x → τ.2.1 11 x ≠ -1) ∧ DV τ := by
  obtain ⟨h1, h2, h3, h4, h5, h6⟩ := h
  have e := h3.1
  have hI := h1.1
  have hrow := inv_row hI
  have hkv := kv_vf hI.2.1 hrow.1 h1.2
  unfold RR
  rw [e, h4]
  exact ⟨hI.2.1, h3, hI.2.2.1, hI.2.2.2.1, hI.2.2.2.2.1, ⟨hrow, hkv.1⟩, hkv.2, h1.2.2.1⟩
theorem rel_fpr {τ σ u : S0} (h : REL τ σ) (hf : FPr σ u) (ho : Ok u) (h4 : u.1 4 = 1) (hp : PRE τ u) : REL τ u := by
  obtain ⟨h1, h2, h3, h4', h5, h6⟩ := h
  obtain ⟨f1, f2⟩ := hf
  refine ⟨?_, ho, ?_, ?_, ?_, Or.inr ⟨h4, hp⟩⟩
  · rw [f2 5 (by decide), f2 6 (by decide)]; exact h1
  · unfold RT
    rw [f1 2 (by decide), f2 1 (by decide), f2 2 (by decide), f2 3 (by decide), f2 4 (by decide)]
    exact h3
  · rw [f1 3 (by decide)]; exact h4'
  · rw [f1 1 (by decide)]; exact h5
section RLP
variable {τ σ : S0}
/-- the parts of it that the queries use -/
theorem rel_nv (h : REL τ σ) (hp : PRE τ σ) : NVAL (τ.1 0) (τ.2.1 5) (τ.2.1 6) (τ.2.1 7) (σ.2.1 7) (σ.2.1 8) τ (τ.2.1 11) ∧ (∀ x, In (τ.1 0) x → τ.2.1 11 x ≠ -1) ∧ (∀ x, In (τ.1 0) x → In (τ.1 3) (τ.2.1 11 x) ∧ σ.2.2 9 x = τ.2.2 17 (τ.2.1 11 x) ∧ σ.2.1 10 x = τ.2.1 15 (τ.2.1 11 x) ∧ BT (τ.1 0) (σ.2.1 7) (σ.2.1 8) (τ.2.1 11) (τ.2.2 18 (τ.2.1 11 x)) (σ.2.2 11 x)) ∧ (∀ s t, In (τ.1 0) s → In (τ.1 0) t → σ.2.1 12 (40 * s + t) = bz (τ.2.1 11 s = τ.2.1 11 t)) := by
  have e := h.2.2.1.1
  have hv := (rel_T h).2.2.2.2.2.2.1
  obtain ⟨⟨p1, p2⟩, -, p3⟩ := hp
  rw [e] at p1 p2 p3 hv
  refine ⟨p1, hv, fun x hx => ?_, p3⟩
  obtain ⟨q1, q2⟩ := p2 x hx
  exact q1.resolve_left (fun z => by have := q2.mpr (hv x hx); omega)
theorem vars_pop (h : REL τ σ) (hp : PRE τ σ) {s : Int} (hs : In (τ.1 0) s) : sm (fun k => bz (tb (σ.2.2 11 s) k)) 40 = pop (τ.2.2 18 (τ.2.1 11 s)) := by
  obtain ⟨nv, hv, kn, -⟩ := rel_nv h hp
  obtain ⟨k1, -, -, k4⟩ := kn s hs
  have hI := h.1
  have n40 := hI.1.2.1.2.1
  have v40 := hI.2.2.2.1
  refine sm_bij (f := τ.2.1 11) (n := 40) (m := 40) (A := fun k => tb (σ.2.2 11 s) k) (B := fun b => tb (τ.2.2 18 (τ.2.1 11 s)) b) (fun x x0 x1 hx => ?_) (fun x y x0 x1 y0 y1 hx hy e => ?_) (fun b b0 b1 hb => ?_)
  · obtain ⟨q1, q2, q3, q4⟩ := (k4.2.2 x ⟨x0, by omega⟩).mp hx
    have := (kn x q1).1
    exact ⟨⟨this.1, by omega⟩, q4⟩
  · obtain ⟨q1, q2, q3, q4⟩ := (k4.2.2 x ⟨x0, by omega⟩).mp hx
    obtain ⟨r1, r2, r3, r4⟩ := (k4.2.2 y ⟨y0, by omega⟩).mp hy
    rw [← q2, ← r2]
    exact nv.2.2.2.2.1 x y q1 r1 q3 r3 e
  · obtain ⟨b2, b3⟩ := holds_var hI.2.1 v40 _ _ k1 (Nat.lt_succ_self _) b b0 hb
    obtain ⟨y1, y2, -⟩ := hI.2.2.2.2.2.2.2.1 b b2
    obtain ⟨g1, g2, -⟩ := nv.2.2.2.2.2.2.1 _ y1
    have e : τ.2.1 11 (σ.2.1 7 (τ.2.1 16 b)) = b := (nv.2.2.2.1 _ _ g1 y1 g2).trans y2
    refine ⟨σ.2.1 7 (τ.2.1 16 b), g1.1, by omega, ?_, e⟩
    refine (k4.2.2 _ ⟨g1.1, by omega⟩).mpr ⟨g1, g2, ?_, by rw [e]; exact hb⟩
    rcases (nv_all nv hv g1).2 with ⟨z, -⟩ | ⟨-, z2, z3, -⟩
    · exact z
    · rw [e, b3] at z3
      exact absurd z3.symm z2
theorem sh_kd (hN : NVAL (τ.1 0) (τ.2.1 5) (τ.2.1 6) (τ.2.1 7) (σ.2.1 7) (σ.2.1 8) τ (τ.2.1 11)) {x : Int} (hx : In (τ.1 0) x) : σ.2.1 8 x = -1 ↔ ∀ t, In (τ.1 0) t → σ.2.1 7 t = σ.2.1 7 x → τ.2.1 5 t = -1 := by
  rcases hN.2.2.2.2.2.1 x hx with ⟨q1, q2⟩ | ⟨q1, q2, q3⟩
  · exact ⟨fun _ => q2, fun _ => q1⟩
  · exact ⟨fun q => by omega, fun q => absurd (q _ q1 q2) q3⟩
theorem free_eq0 {e1 e2 : Int → Int} (hI : INV τ e1 e2) (hT : RT σ (τ.1 0) (τ.2.1 5) (τ.2.1 6) (τ.2.1 7)) (nv : NVAL (τ.1 0) (τ.2.1 5) (τ.2.1 6) (τ.2.1 7) (σ.2.1 7) (σ.2.1 8) τ (τ.2.1 11)) (hv : ∀ x, In (τ.1 0) x → τ.2.1 11 x ≠ -1) (lq : ∀ x y, In (τ.1 0) x → In (τ.1 0) y → (σ.2.1 7 x = σ.2.1 7 y ↔ kr τ x = kr τ y)) : sm (fun s => bz ((σ.2.1 1 s < 0 ∧ σ.2.1 8 s < 0) ∧ σ.2.1 7 s = s)) (σ.1 2).toNat = τ.1 4 := by
  have e := hT.1
  have hrow := inv_row hI.1
  obtain ⟨c1, c2, -, -⟩ := hrow
  have T := hI.1.2.1
  rw [hI.2.2.2.2.2.2.2.2, e]
  have n0 := T.1
  refine sm_bij (f := kr τ) (fun x x0 x1 hx => ?_) (fun x y x0 x1 y0 y1 hx hy q => ?_) (fun b b0 b1 hb => ?_)
  · have ix : In (τ.1 0) x := ⟨x0, by omega⟩
    obtain ⟨r1, r2, -⟩ := c1 x ix
    have hh : σ.2.1 8 x = -1 := by
      rcases (nv_all nv hv ix).2 with ⟨z, -⟩ | ⟨z, -⟩
      · exact z
      · have := hx.1.2; omega
    exact ⟨⟨r1.1, by omega⟩, r2, (sh_kd nv ix).mp hh _ r1 ((lq _ _ r1 ix).mpr r2)⟩
  · have ix : In (τ.1 0) x := ⟨x0, by omega⟩
    have iy : In (τ.1 0) y := ⟨y0, by omega⟩
    rw [← hx.2, ← hy.2]
    exact (lq x y ix iy).mpr q
  · have ib : In (τ.1 0) b := ⟨b0, by omega⟩
    obtain ⟨g1, g2, -⟩ := nv.2.2.2.2.2.2.1 b ib
    have rb : kr τ (σ.2.1 7 b) = b := ((lq _ _ g1 ib).mp g2).trans hb.1
    have allv : ∀ t, In (τ.1 0) t → σ.2.1 7 t = σ.2.1 7 b → τ.2.1 5 t = -1 := fun t ht q => Classical.byContradiction fun z => by
      have := (c1 t ht).2.2 z
      rw [(lq t b ht ib).mp q, hb.1, hb.2] at this
      exact this rfl
    refine ⟨σ.2.1 7 b, g1.1, by omega, ⟨⟨(rt_x T hT g1).1.mpr (allv _ g1 g2), ?_⟩, g2⟩, rb⟩
    have := (sh_kd nv g1).mpr (fun t ht q => allv t ht (q.trans g2))
    omega
theorem free_eq (h : REL τ σ) (hp : PRE τ σ) : sm (fun s => bz ((σ.2.1 1 s < 0 ∧ σ.2.1 8 s < 0) ∧ σ.2.1 7 s = s)) (σ.1 2).toNat = τ.1 4 := by
  obtain ⟨nv, hv, -, -⟩ := rel_nv h hp
  have e := h.2.2.1.1
  refine free_eq0 h.1 h.2.2.1 nv hv (fun x y hx hy => ?_)
  have q := hp.2.1 x y (by rw [e]; exact hx) (by rw [e]; exact hy)
  rw [q, (inv_row h.1.1).2.1 x y hx hy]
  unfold RR cl
  rw [e, h.2.2.2.1]
/-- a variable's least node is its value's leader -/
theorem least_lead (h : REL τ σ) (hp : PRE τ σ) {x : Int} (hx : In (τ.1 0) x) (hh : σ.2.1 8 x = -1) : σ.2.1 7 x = τ.2.1 16 (τ.2.1 11 x) := by
  obtain ⟨nv, hv, kn, -⟩ := rel_nv h hp
  obtain ⟨k1, -⟩ := kn x hx
  obtain ⟨y1, y2, y3⟩ := h.1.2.2.2.2.2.2.2.1 _ k1
  obtain ⟨g1, g2, -⟩ := nv.2.2.2.2.2.2.1 x hx
  have w12 : τ.2.1 12 (τ.2.1 11 x) = -1 := by
    rcases (nv_all nv hv hx).2 with ⟨-, z⟩ | ⟨z, -⟩
    · exact z
    · omega
  have a := y3 _ g1 (nv.2.2.2.1 _ _ g1 hx g2)
  have hl : σ.2.1 8 (τ.2.1 16 (τ.2.1 11 x)) = -1 := by
    rcases (nv_all nv hv y1).2 with ⟨z, -⟩ | ⟨-, z2, z3, -⟩
    · exact z
    · rw [y2, w12] at z3
      exact absurd z3.symm z2
  have b := nv.2.2.2.2.1 _ _ y1 hx hl hh y2
  have c := nv.2.2.2.2.2.2.2 _ y1
  omega
/-- what a call of the reference tells, where the class answers v or finds its arguments bad -/
def PQ (τ : S0) (good : Prop) (v z : Int) (u : S0) : Prop := REL τ u ∧ ((good ∧ u.1 0 = 0 ∧ v = z) ∨ (¬ good ∧ u.1 0 = 1))
end RLP
