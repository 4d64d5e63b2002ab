/-! learning keeps what is known -/
def ag (f h : Int → Int) (s : Int) : Int := if h s = -1 then -1 else f (h s)
theorem tb_or (a b k : Int) : tb (orI a b) k ↔ tb a k ∨ tb b k := by
  show (orI a b).toNat.testBit k.toNat = true ↔ _
  unfold orI
  rw [Int.toNat_natCast, Nat.testBit_or, Bool.or_eq_true]
theorem tb_0 (k : Int) : ¬ tb 0 k := by
  show ¬ (Nat.testBit 0 k.toNat = true)
  rw [Nat.zero_testBit]
  decide
theorem tb_p2 {v k : Int} (hv : 0 ≤ v) (hk : 0 ≤ k) : tb (p2 v.toNat) k ↔ v = k := by
  show (p2 v.toNat).toNat.testBit k.toNat = true ↔ _
  unfold p2
  rw [Int.toNat_natCast, Nat.testBit_two_pow, decide_eq_true_eq]
  omega
theorem orI_0l {a : Int} (h : 0 ≤ a) : orI 0 a = a := by
  unfold orI
  show (((0 : Nat) ||| a.toNat : Nat) : Int) = a
  rw [Nat.zero_or]
  omega
theorem orI_0r {a : Int} (h : 0 ≤ a) : orI a 0 = a := by
  unfold orI
  show ((a.toNat ||| (0 : Nat) : Nat) : Int) = a
  rw [Nat.or_zero]
  omega
theorem bt_0 {n : Int} {g h val : Int → Int} : BT n g h val 0 0 := ⟨Int.le_refl _, by have := p2_pos 40; omega, fun k _ => ⟨fun q => absurd q (tb_0 k), fun q => absurd q.2.2.2 (tb_0 _)⟩⟩
theorem bt_or {n : Int} {g h val : Int → Int} {m c m' c' : Int} (h1 : BT n g h val m c) (h2 : BT n g h val m' c') : BT n g h val (orI m m') (orI c c') := by
  have q := orI_lt h1.2.1 h2.2.1
  refine ⟨q.1, q.2, fun k hk => ?_⟩
  rw [tb_or, tb_or, h1.2.2 k hk, h2.2.2 k hk]
  constructor
  · rintro (⟨a, b, c, d⟩ | ⟨a, b, c, d⟩)
    · exact ⟨a, b, c, Or.inl d⟩
    · exact ⟨a, b, c, Or.inr d⟩
  · rintro ⟨a, b, c, d | d⟩
    · exact Or.inl ⟨a, b, c, d⟩
    · exact Or.inr ⟨a, b, c, d⟩
theorem so_kn {n : Int} {g h : Int → Int} {w : S0} {val : Int → Int} {u : S0} {a : Int} (ha : a = -1 ∨ (KN n g h w val u a ∧ 0 < u.2.2 9 a)) : soF (u.2.2 9) a = soF (w.2.2 17) (vnF val a) ∧ soF (u.2.1 10) a = soF (w.2.1 15) (vnF val a) ∧ BT n g h val (soF (w.2.2 18) (vnF val a)) (soF (u.2.2 11) a) ∧ (a ≠ -1 → val a ≠ -1) := by
  by_cases c : a = -1
  · have e : vnF val a = -1 := if_pos c
    rw [e]
    unfold soF
    rw [if_pos c, if_pos c, if_pos c, if_pos rfl, if_pos rfl, if_pos rfl]
    exact ⟨rfl, rfl, bt_0, fun q => absurd c q⟩
  · obtain ⟨k1, k2⟩ := ha.resolve_left c
    rcases k1 with k1 | ⟨k1, k3, k4, k5⟩
    · omega
    · have hv : val a ≠ -1 := by omega
      have e : vnF val a = val a := if_neg c
      rw [e]
      unfold soF
      rw [if_neg c, if_neg c, if_neg c, if_neg hv, if_neg hv, if_neg hv]
      exact ⟨k3, k4, k5, fun _ => hv⟩
theorem ln_val {n : Int} {kd fa sa g h : Int → Int} {w : S0} {val : Int → Int} {σ : S0} {s m0 : Int} (T : Tb n kd fa sa) (hN : NVAL n kd fa sa g h w val) (hs : In n s) (hc : CAN fa sa h σ s) (hk : ∀ y, In n y → KN n g h w val σ y) (hm : (h s = -1 ∧ m0 = p2 (g s).toNat) ∨ (h s ≠ -1 ∧ m0 = 0)) :
    In (w.1 3) (val s) ∧ 1 + soF (σ.2.2 9) (ag fa h s) + soF (σ.2.2 9) (ag sa h s) = w.2.2 17 (val s) ∧ 1 + mx (soF (σ.2.1 10) (ag fa h s)) (soF (σ.2.1 10) (ag sa h s)) = w.2.1 15 (val s) ∧ BT n g h val (w.2.2 18 (val s)) (orI (orI m0 (soF (σ.2.2 11) (ag fa h s))) (soF (σ.2.2 11) (ag sa h s))) := by
  obtain ⟨v1, v2, v3, v4, v5, v6, v7, v8⟩ := hN
  rcases v3 s hs with ⟨q1, q2, q3⟩ | ⟨q1, q2, q3⟩
  · have eA : ag fa h s = -1 := if_pos q1
    have eB : ag sa h s = -1 := if_pos q1
    obtain ⟨-, -, a3, a4, a5, a6, -⟩ := v1.2 _ q2
    obtain ⟨b1, b2⟩ := a3 q3
    rw [eA, eB, a4, a5, a6, if_pos q3, b1, b2]
    have z : ∀ f : Int → Int, soF f (-1) = 0 := fun f => if_pos rfl
    rw [z, z, z, z, z]
    have hm0 := (hm.resolve_right (fun q => q.1 q1)).2
    obtain ⟨g1, g2, -⟩ := v7 s hs
    have pp := p2_pos (g s).toNat
    have e0 : orI (p2 (g s).toNat) 0 = p2 (g s).toNat := orI_0r (by omega)
    rw [hm0, e0, e0]
    refine ⟨q2, rfl, rfl, by omega, ?_, fun k hk => ?_⟩
    · have n40 := T.2.1
      have p := p2_le (show (g s).toNat + 1 ≤ 40 by omega)
      rw [p2_succ] at p
      omega
    · rw [tb_p2 g1.1 hk.1]
      constructor
      · intro e
        subst e
        have hh : h (g s) = -1 := by
          rcases v6 _ g1 with ⟨r1, -⟩ | ⟨r1, r2, r3⟩
          · exact r1
          · rcases v6 s hs with ⟨-, r5⟩ | ⟨r5, -⟩
            · exact absurd (r5 _ r1 (r2.trans g2)) r3
            · omega
        have vv : val (g s) = val s := v4 _ _ g1 hs g2
        exact ⟨g1, g2, hh, by rw [vv, tb_p2 q2.1 q2.1]⟩
      · rintro ⟨k1, k2, k3, k4⟩
        have kv : 0 ≤ val k := by
          rcases v3 k k1 with ⟨-, z, -⟩ | ⟨z, -⟩
          · exact z.1
          · omega
        rw [tb_p2 q2.1 kv] at k4
        rw [v5 s k hs k1 q1 k3 k4, k2]
  · have c0 : h s ≠ -1 := by omega
    have eA : ag fa h s = fa (h s) := if_neg c0
    have eB : ag sa h s = sa (h s) := if_neg c0
    obtain ⟨c1, c2⟩ := hc
    obtain ⟨d1, d2⟩ := c2.resolve_left c0
    have hA : fa (h s) = -1 ∨ (KN n g h w val σ (fa (h s)) ∧ 0 < σ.2.2 9 (fa (h s))) := by
      by_cases z : fa (h s) = -1
      · exact Or.inl z
      · exact Or.inr ⟨hk _ (T.fa_in q1 z), d1.resolve_left z⟩
    have hB : sa (h s) = -1 ∨ (KN n g h w val σ (sa (h s)) ∧ 0 < σ.2.2 9 (sa (h s))) := by
      by_cases z : sa (h s) = -1
      · exact Or.inl z
      · exact Or.inr ⟨hk _ (T.sa_in q1 z), d2.resolve_left z⟩
    obtain ⟨x1, x2, x3, x4⟩ := so_kn hA
    obtain ⟨y1, y2, y3, y4⟩ := so_kn hB
    rcases q3 with ⟨-, r | r⟩ | ⟨r1, r2, r3, r4, -, -⟩
    · exact absurd r.2 (x4 r.1)
    · exact absurd r.2 (y4 r.1)
    · obtain ⟨-, -, a3, a4, a5, a6, -⟩ := v1.2 _ r1
      have hm0 := (hm.resolve_left (fun q => c0 q.1)).2
      rw [eA, eB, a4, a5, a6, if_neg (by rw [r2]; exact q2), r3, r4, x1, x2, y1, y2, hm0, orI_0l x3.1]
      exact ⟨r1, rfl, rfl, bt_or x3 y3⟩
theorem ln_kn {n : Int} {kd fa sa g h : Int → Int} {w : S0} {val : Int → Int} {σ u : S0} {s m0 : Int} (T : Tb n kd fa sa) (hN : NVAL n kd fa sa g h w val) (hs : In n s) (hc : CAN fa sa h σ s) (hk : ∀ y, In n y → KN n g h w val σ y) (hm : (h s = -1 ∧ m0 = p2 (g s).toNat) ∨ (h s ≠ -1 ∧ m0 = 0))
    (hl : LN σ u s (1 + soF (σ.2.2 9) (ag fa h s) + soF (σ.2.2 9) (ag sa h s)) (1 + mx (soF (σ.2.1 10) (ag fa h s)) (soF (σ.2.1 10) (ag sa h s))) (orI (orI m0 (soF (σ.2.2 11) (ag fa h s))) (soF (σ.2.2 11) (ag sa h s)))) (ho : Ok σ) :
    (∀ y, In n y → KN n g h w val u y) ∧ 0 < u.2.2 9 s ∧ Ok u ∧ sm (fun x => bz (0 < σ.2.2 9 x)) n.toNat + 1 = sm (fun x => bz (0 < u.2.2 9 x)) n.toNat := by
  obtain ⟨l1, l2, l3, l4⟩ := ln_val T hN hs hc hk hm
  have b := vt_lt40 hN.1 hN.2.1 l1
  obtain ⟨-, -, -, -, -, -, b1, b2, b3⟩ := hN.1.2 _ l1
  have hn40 := hN.2.1
  rw [l2, l3] at hl
  have ok : Ok u := ok_ln hl ho ⟨by omega, by omega⟩ ⟨by omega, by omega⟩ ⟨by have := l4.1; omega, by have := l4.2.1; rw [p2_40] at this; omega⟩
  obtain ⟨h1, h2, h3, h4, h5, h6⟩ := hl
  have es : u.2.2 9 s = w.2.2 17 (val s) := by rw [h5, ui_at]
  have pos : 0 < u.2.2 9 s := by omega
  refine ⟨fun y hy => ?_, pos, ok, ?_⟩
  · by_cases e : y = s
    · subst e
      right
      rw [h3, h6, ui_at, ui_at]
      exact ⟨l1, es, rfl, l4⟩
    · unfold KN
      rw [h5, h3, h6, ui_ne _ _ e, ui_ne _ _ e, ui_ne _ _ e]
      exact hk y hy
  · refine sm_dec (i := s) hs.1 (by have := hs.2; omega) (fun x _ _ hx => ?_) ?_
    · rw [h5, ui_ne _ _ hx]
    · show bz (0 < σ.2.2 9 s) + 1 = bz (0 < u.2.2 9 s)
      rw [bz_f hc.1, bz_t pos]
      rfl
/-- nothing more to learn -/
theorem kn_all {n : Int} {kd fa sa g h : Int → Int} {w : S0} {val : Int → Int} {u : S0} (T : Tb n kd fa sa) (hN : NVAL n kd fa sa g h w val) (hc : ∀ y, In n y → ¬ CAN fa sa h u y) : ∀ (m : Nat) (x : Int), In n x → val x ≠ -1 → (val x).toNat < m → 0 < u.2.2 9 x
  | 0, _, _, _, hm => by omega
  | m + 1, x, hx, hv, hm => by
    refine Classical.byContradiction fun hno => hc x hx ⟨hno, ?_⟩
    rcases hN.2.2.1 x hx with ⟨q1, -⟩ | ⟨q1, q2, q3⟩
    · exact Or.inl q1
    · right
      rcases q3 with ⟨r, -⟩ | ⟨r1, r2, r3, r4, r5, r6⟩
      · exact absurd r hv
      · obtain ⟨a1, a2, -⟩ := hN.1.2 _ r1
        refine ⟨?_, ?_⟩
        · by_cases z : fa (h x) = -1
          · exact Or.inl z
          · right
            have e : w.2.1 13 (val x) = val (fa (h x)) := r3.trans (if_neg z)
            rw [e] at a1
            have a1 := a1.resolve_left (r5 z)
            exact kn_all T hN hc m _ (T.fa_in q1 z) (r5 z) (by omega)
        · by_cases z : sa (h x) = -1
          · exact Or.inl z
          · right
            have e : w.2.1 14 (val x) = val (sa (h x)) := r4.trans (if_neg z)
            rw [e] at a2
            have a2 := a2.resolve_left (r6 z)
            exact kn_all T hN hc m _ (T.sa_in q1 z) (r6 z) (by omega)
theorem kn_pos {n : Int} {g h : Int → Int} {w : S0} {val : Int → Int} {u : S0} {x : Int} (h1 : KN n g h w val u x) (h2 : 0 < u.2.2 9 x) : val x ≠ -1 := by
  rcases h1 with h1 | ⟨h1, -⟩ <;> omega
theorem kn_b {n : Int} {g h : Int → Int} {w : S0} {val : Int → Int} {u : S0} {x : Int} (hV : VT w) (h40 : w.1 3 ≤ 40) (h1 : KN n g h w val u x) (h2 : 0 < u.2.2 9 x) : 1 ≤ u.2.1 10 x ∧ u.2.1 10 x ≤ 40 ∧ 0 ≤ u.2.2 11 x ∧ u.2.2 11 x < p2 40 := by
  rcases h1 with h1 | ⟨h1, h3, h4, h5, h6, -⟩
  · omega
  · obtain ⟨-, -, -, -, -, -, -, b, -⟩ := hV.2 _ h1
    rw [h4]
    exact ⟨b.1, by omega, h5, h6⟩
/-- an argument that isn't there -/
theorem ln_none {σ u : S0} {s a Z d M : Int} (h : LN σ u s Z (1 + d) M) (ha : a = -1) (hd : 0 ≤ d) (hM : 0 ≤ M) : LN σ u s (Z + soF (σ.2.2 9) a) (1 + mx d (soF (σ.2.1 10) a)) (orI M (soF (σ.2.2 11) a)) := by
  have z : ∀ f : Int → Int, soF f a = 0 := fun f => if_pos ha
  rw [z, z, z, orI_0r hM]
  have e : mx d 0 = d := if_neg (by omega)
  rw [e, Int.add_zero]
  exact h
theorem ln_some {σ u : S0} {s a Z d M : Int} (h : LN σ u s (Z + σ.2.2 9 a) (mx (1 + d) (σ.2.1 10 a + 1)) (orI M (σ.2.2 11 a))) (ha : a ≠ -1) : LN σ u s (Z + soF (σ.2.2 9) a) (1 + mx d (soF (σ.2.1 10) a)) (orI M (soF (σ.2.2 11) a)) := by
  have z : ∀ f : Int → Int, soF f a = f a := fun f => if_neg ha
  rw [z, z, z]
  have e : mx (1 + d) (σ.2.1 10 a + 1) = 1 + mx d (σ.2.1 10 a) := by
    unfold mx
    split <;> split <;> omega
  rw [← e]
  exact h
theorem mx_0l {x : Int} (h : 0 ≤ x) : mx 0 x = x := by
  unfold mx
  split <;> omega
theorem ag_none {f h : Int → Int} {s : Int} (e : h s = -1) : ag f h s = -1 := if_pos e
theorem ag_some {f h : Int → Int} {s : Int} (e : h s ≠ -1) : ag f h s = f (h s) := if_neg e
theorem ag_kn {n : Int} {kd fa sa g h : Int → Int} {w : S0} {val : Int → Int} {σ : S0} {s : Int} (T : Tb n kd fa sa) (hh : h s = -1 ∨ In n (h s)) (hc : CAN fa sa h σ s) (hk : ∀ y, In n y → KN n g h w val σ y) : ag fa h s = -1 ∨ (KN n g h w val σ (ag fa h s) ∧ 0 < σ.2.2 9 (ag fa h s)) := by
  by_cases c : h s = -1
  · exact Or.inl (if_pos c)
  · have e : ag fa h s = fa (h s) := if_neg c
    rw [e]
    by_cases z : fa (h s) = -1
    · exact Or.inl z
    · exact Or.inr ⟨hk _ (T.fa_in (hh.resolve_left c) z), (hc.2.resolve_left c).1.resolve_left z⟩
theorem ag_b {n : Int} {g h : Int → Int} {w : S0} {val : Int → Int} {u : S0} {a : Int} (hV : VT w) (h40 : w.1 3 ≤ 40) (ha : a = -1 ∨ (KN n g h w val u a ∧ 0 < u.2.2 9 a)) : 0 ≤ soF (u.2.1 10) a ∧ soF (u.2.1 10) a ≤ 40 ∧ 0 ≤ soF (u.2.2 11) a ∧ soF (u.2.2 11) a < p2 40 := by
  have := p2_pos 40
  by_cases c : a = -1
  · unfold soF
    rw [if_pos c, if_pos c]
    omega
  · have b := ha.resolve_left c
    have b := kn_b hV h40 b.1 b.2
    unfold soF
    rw [if_neg c, if_neg c]
    omega
