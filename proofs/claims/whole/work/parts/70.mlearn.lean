/-! the values of the reference's nodes, told by the class's table of values -/
def KV (n : Int) (kd fa sa row : Int → Int) (w : S0) (val : Int → Int) : Prop := VT w ∧ w.1 3 ≤ 40 ∧ (∀ x y, In n x → In n y → row x = row y → val x = val y) ∧
  (∀ x, In n x → (val x = -1 ∧ ((fa (row x) ≠ -1 ∧ val (fa (row x)) = -1) ∨ (sa (row x) ≠ -1 ∧ val (sa (row x)) = -1))) ∨ (In (w.1 3) (val x) ∧ w.2.1 12 (val x) = kd (row x) ∧ w.2.1 13 (val x) = vnF val (fa (row x)) ∧ w.2.1 14 (val x) = vnF val (sa (row x)) ∧ (fa (row x) ≠ -1 → val (fa (row x)) ≠ -1) ∧ (sa (row x) ≠ -1 → val (sa (row x)) ≠ -1))) ∧
  (∀ x y, In n x → In n y → kd (row x) = -1 → kd (row y) = -1 → val x ≠ -1 → val x = val y → row x = row y)
theorem kv_vf {n : Int} {kd fa sa row : Int → Int} {w : S0} (T : Tb n kd fa sa) (hR : RowOk n kd row) (h : VF n kd fa sa row w) : KV n kd fa sa row w (w.2.1 11) ∧ ∀ x, In n x → w.2.1 11 x ≠ -1 := by
  obtain ⟨h1, -, h3, h4, h5, h6, -, -⟩ := h
  have hv : ∀ x, In n x → w.2.1 11 x ≠ -1 := fun x hx => by have := (h4 x hx).1; omega
  refine ⟨⟨h1, h3, h5, fun x hx => Or.inr ?_, fun x y hx hy a b _ e => h6 x y hx hy a b e⟩, hv⟩
  obtain ⟨a1, a2, a3, a4⟩ := h4 x hx
  have r := (hR x hx).1
  exact ⟨a1, a2, a3, a4, fun q => hv _ (T.fa_in r q), fun q => hv _ (T.sa_in r q)⟩
theorem kv_st {n : Int} {kd fa sa row : Int → Int} {w : S0} (T : Tb n kd fa sa) (hR : RowOk n kd row) (h : ST n kd fa sa row w) : KV n kd fa sa row w (fun x => w.2.1 11 (row x)) ∧ ∃ x, In n x ∧ w.2.1 11 (row x) = -1 := by
  obtain ⟨⟨s1, s2, s3, s4, s5, s6, s7, s8, s9⟩, h2, y, y1, y2, y3⟩ := h
  refine ⟨⟨s1, ?_, fun x y hx hy e => by dsimp only; rw [e], fun x hx => ?_, fun x y hx hy a b c e => ?_⟩, y, y1, by rw [y2]; exact y3⟩
  · have q := (stl_le T.1 row w).2
    have q2 := (reps_le row T.1).2
    have q3 := T.2.1
    omega
  · dsimp only
    obtain ⟨r1, r2, -⟩ := hR x hx
    rcases s4 _ r1 r2 with q | ⟨q1, q2, q3, q4, q5, q6⟩
    · left
      refine ⟨q, ?_⟩
      have hna := h2 _ r1 r2 q
      by_cases c : fa (row x) = -1
      · right
        by_cases d : sa (row x) = -1
        · exact absurd ⟨Or.inl c, Or.inl d⟩ hna
        · refine ⟨d, Classical.byContradiction fun z => hna ⟨Or.inl c, Or.inr ?_⟩⟩
          rw [vuF_ne d]
          exact z
      · by_cases z : w.2.1 11 (row (fa (row x))) = -1
        · exact Or.inl ⟨c, z⟩
        · right
          by_cases d : sa (row x) = -1
          · exact absurd ⟨Or.inr (by rw [vuF_ne c]; exact z), Or.inl d⟩ hna
          · refine ⟨d, Classical.byContradiction fun z' => hna ⟨Or.inr (by rw [vuF_ne c]; exact z), Or.inr ?_⟩⟩
            rw [vuF_ne d]
            exact z'
    · exact Or.inr ⟨q1, q2, q3, q4, q5, q6⟩
  · obtain ⟨r1, r2, -⟩ := hR x hx
    obtain ⟨t1, t2, -⟩ := hR y hy
    exact s5 _ _ r1 t1 r2 t2 a b c e
/-- one node and its value -/
def NVx (n : Int) (kd fa sa h : Int → Int) (w : S0) (val : Int → Int) (x : Int) : Prop :=
  (h x = -1 ∧ In (w.1 3) (val x) ∧ w.2.1 12 (val x) = -1) ∨
  (In n (h x) ∧ kd (h x) ≠ -1 ∧ ((val x = -1 ∧ ((fa (h x) ≠ -1 ∧ val (fa (h x)) = -1) ∨ (sa (h x) ≠ -1 ∧ val (sa (h x)) = -1))) ∨
    (In (w.1 3) (val x) ∧ w.2.1 12 (val x) = kd (h x) ∧ w.2.1 13 (val x) = vnF val (fa (h x)) ∧ w.2.1 14 (val x) = vnF val (sa (h x)) ∧ (fa (h x) ≠ -1 → val (fa (h x)) ≠ -1) ∧ (sa (h x) ≠ -1 → val (sa (h x)) ≠ -1))))
def NVAL (n : Int) (kd fa sa g h : Int → Int) (w : S0) (val : Int → Int) : Prop := VT w ∧ w.1 3 ≤ 40 ∧ (∀ x, In n x → NVx n kd fa sa h w val x) ∧ (∀ x y, In n x → In n y → g x = g y → val x = val y) ∧
  (∀ x y, In n x → In n y → h x = -1 → h y = -1 → val x = val y → g x = g y) ∧ SHP n kd g h ∧ RowOk n V1 g ∧ (∀ x, In n x → g x ≤ x)
theorem vnF_eq {v : Int → Int} {a b : Int} (h0 : a = -1 ↔ b = -1) (h : a ≠ -1 → v a = v b) : vnF v a = vnF v b := by
  unfold vnF
  by_cases c : a = -1
  · rw [if_pos c, if_pos (h0.mp c)]
  · rw [if_neg c, if_neg (fun q => c (h0.mpr q)), h c]
theorem nval_of {n : Int} {kd fa sa row g h : Int → Int} {R : Int → Int → Prop} {w : S0} {val : Int → Int} (T : Tb n kd fa sa) (hC : RowC n kd fa sa row R) (hL : LW n g R) (hq : ∀ x y, In n x → In n y → (g x = g y ↔ R x y)) (hs : SHP n kd g h) (hv : KV n kd fa sa row w val) : NVAL n kd fa sa g h w val := by
  obtain ⟨c1, c2, c3, -⟩ := hC
  obtain ⟨v1, v2, v3, v4, v5⟩ := hv
  have gr : ∀ x y, In n x → In n y → g x = g y → row x = row y := fun x y hx hy e => (c2 x y hx hy).mpr ((hq x y hx hy).mp e)
  have rg : ∀ x y, In n x → In n y → row x = row y → g x = g y := fun x y hx hy e => (hq x y hx hy).mpr ((c2 x y hx hy).mp e)
  have free : ∀ x, In n x → h x = -1 → kd (row x) = -1 := fun x hx e => by
    rcases hs x hx with ⟨-, s2⟩ | ⟨s1, -⟩
    · obtain ⟨r1, r2, -⟩ := c1 x hx
      exact s2 _ r1 (rg _ _ r1 hx r2)
    · omega
  refine ⟨v1, v2, fun x hx => ?_, fun x y hx hy e => v3 x y hx hy (gr x y hx hy e), fun x y hx hy a b e => ?_, hs, hL.1, hL.2.1⟩
  · rcases hs x hx with ⟨s1, s2⟩ | ⟨s1, s2, s3⟩
    · left
      have k := free x hx s1
      obtain ⟨t1, t2⟩ := (T.2.2 _ (c1 x hx).1).2.2.2.1 k
      rcases v4 x hx with ⟨-, q | q⟩ | ⟨q1, q2, -⟩
      · exact absurd t1 q.1
      · exact absurd t2 q.1
      · exact ⟨s1, q1, q2.trans k⟩
    · right
      refine ⟨s1, s3, ?_⟩
      obtain ⟨d1, d2, d3⟩ := c3 _ s1 s3
      have er : row (h x) = row x := gr _ _ s1 hx s2
      rw [er] at d1 d2 d3
      have r := (c1 x hx).1
      have fe := T.fa_eq s1 r s3 d1.symm
      have vf : fa (h x) ≠ -1 → val (fa (h x)) = val (fa (row x)) := fun q => v3 _ _ (T.fa_in s1 q) (T.fa_in r (fun z => q (fe.1.mpr z))) (d2 q)
      have vs : sa (h x) ≠ -1 → val (sa (h x)) = val (sa (row x)) := fun q => v3 _ _ (T.sa_in s1 q) (T.sa_in r (fun z => q (fe.2.mpr z))) (d3 q)
      rcases v4 x hx with ⟨q0, q⟩ | ⟨q1, q2, q3, q4, q5, q6⟩
      · left
        refine ⟨q0, q.imp (fun q => ?_) (fun q => ?_)⟩
        · have z : fa (h x) ≠ -1 := fun z => q.1 (fe.1.mp z)
          exact ⟨z, (vf z).trans q.2⟩
        · have z : sa (h x) ≠ -1 := fun z => q.1 (fe.2.mp z)
          exact ⟨z, (vs z).trans q.2⟩
      · right
        refine ⟨q1, q2.trans d1, q3.trans (vnF_eq fe.1 vf).symm, q4.trans (vnF_eq fe.2 vs).symm, fun z => ?_, fun z => ?_⟩
        · rw [vf z]; exact q5 (fun y => z (fe.1.mpr y))
        · rw [vs z]; exact q6 (fun y => z (fe.2.mpr y))
  · have q : val x ≠ -1 := by
      have k := free x hx a
      obtain ⟨t1, t2⟩ := (T.2.2 _ (c1 x hx).1).2.2.2.1 k
      rcases v4 x hx with ⟨-, q | q⟩ | ⟨q1, -⟩
      · exact absurd t1 q.1
      · exact absurd t2 q.1
      · omega
    exact rg _ _ hx hy (v5 x y hx hy (free x hx a) (free y hy b) q e)
/-- what is known of a node -/
def BT (n : Int) (g h val : Int → Int) (m c : Int) : Prop := 0 ≤ c ∧ c < p2 40 ∧ ∀ k, In 40 k → (tb c k ↔ (In n k ∧ g k = k ∧ h k = -1 ∧ tb m (val k)))
def KN (n : Int) (g h : Int → Int) (w : S0) (val : Int → Int) (u : S0) (x : Int) : Prop := u.2.2 9 x = 0 ∨ (In (w.1 3) (val x) ∧ u.2.2 9 x = w.2.2 17 (val x) ∧ u.2.1 10 x = w.2.1 15 (val x) ∧ BT n g h val (w.2.2 18 (val x)) (u.2.2 11 x))
abbrev CAN (fa sa h : Int → Int) (u : S0) (s : Int) : Prop := ¬ (0 < u.2.2 9 s) ∧ (h s = -1 ∨ ((fa (h s) = -1 ∨ 0 < u.2.2 9 (fa (h s))) ∧ (sa (h s) = -1 ∨ 0 < u.2.2 9 (sa (h s)))))
/-- the state behind learning s -/
def LN (σ u : S0) (s Z D M : Int) : Prop := u.1 = σ.1 ∧ (∀ j, j ≠ 10 → u.2.1 j = σ.2.1 j) ∧ u.2.1 10 = ui (σ.2.1 10) s D ∧ (∀ j, j ≠ 9 → j ≠ 11 → u.2.2 j = σ.2.2 j) ∧ u.2.2 9 = ui (σ.2.2 9) s Z ∧ u.2.2 11 = ui (σ.2.2 11) s M
def prt (u : S0) (s a : Int) : S0 := stL (stF (stL u 9 s (u.2.2 9 s + u.2.2 9 a)) 10 s (mx (u.2.1 10 s) (u.2.1 10 a + 1))) 11 s (orI (u.2.2 11 s) (u.2.2 11 a))
theorem ui_ui (g : Int → Int) (i v v' : Int) : ui (ui g i v) i v' = ui g i v' := by
  funext j
  unfold ui
  split <;> rfl
theorem ln_0 (σ : S0) (s m : Int) : LN σ (stL (stF (stL σ 9 s 1) 10 s 1) 11 s m) s 1 1 m :=
  ⟨rfl, fun j hj => stR_ne _ _ hj, rfl, fun j h1 h2 => by
    show (stL (stF (stL σ 9 s 1) 10 s 1) 11 s m).2.2 j = _
    rw [stL_ne _ _ _ h2]
    exact stL_ne _ _ _ h1, rfl, rfl⟩
theorem ln_part {σ u : S0} {s a Z D M : Int} (h : LN σ u s Z D M) (ha : a ≠ s) : LN σ (prt u s a) s (Z + σ.2.2 9 a) (mx D (σ.2.1 10 a + 1)) (orI M (σ.2.2 11 a)) := by
  obtain ⟨h1, h2, h3, h4, h5, h6⟩ := h
  have e9 : (prt u s a).2.2 9 = ui (u.2.2 9) s (u.2.2 9 s + u.2.2 9 a) := rfl
  have e10 : (prt u s a).2.1 10 = ui (u.2.1 10) s (mx (u.2.1 10 s) (u.2.1 10 a + 1)) := rfl
  have e11 : (prt u s a).2.2 11 = ui (u.2.2 11) s (orI (u.2.2 11 s) (u.2.2 11 a)) := rfl
  refine ⟨h1, fun j hj => ?_, ?_, fun j q1 q2 => ?_, ?_, ?_⟩
  · rw [← h2 j hj]
    exact stR_ne _ _ hj
  · rw [e10, h3, ui_ui, ui_at, ui_ne _ _ ha]
  · rw [← h4 j q1 q2]
    show (stL _ 11 s _).2.2 j = _
    rw [stL_ne _ _ _ q2]
    exact stL_ne _ _ _ q1
  · rw [e9, h5, ui_ui, ui_at, ui_ne _ _ ha]
  · rw [e11, h6, ui_ui, ui_at, ui_ne _ _ ha]
theorem ok_ln {σ u : S0} {s Z D M : Int} (h : LN σ u s Z D M) (ho : Ok σ) (hZ : RgL Z) (hD : Rg D) (hM : RgL M) : Ok u := by
  obtain ⟨h1, h2, h3, h4, h5, h6⟩ := h
  refine ⟨fun k => by rw [h1]; exact ho.1 k, fun k i => ?_, fun k i hk => ?_⟩
  · by_cases c : k = 10
    · rw [c, h3]
      exact ui_rg (ho.2.1 10) hD i
    · rw [h2 k c]; exact ho.2.1 k i
  · by_cases c : k = 9
    · rw [c, h5]
      unfold ui
      split
      · exact hZ
      · exact ho.2.2 9 i (by decide)
    · by_cases d : k = 11
      · rw [d, h6]
        unfold ui
        split
        · exact hM
        · exact ho.2.2 11 i (by decide)
      · rw [h4 k c d]; exact ho.2.2 k i hk
