/-! which nodes are the same -/
abbrev BGN (kd g h : Int → Int) (s t : Int) : Prop := (h s = -1 ∧ h t = -1 ∧ g s = g t) ∨ (h s ≠ -1 ∧ h t ≠ -1 ∧ kd (h s) = kd (h t))
abbrev PAL (fa sa h A : Int → Int) (s t : Int) : Prop := h s = -1 ∨ ((fa (h s) = -1 ∨ A (40 * fa (h s) + fa (h t)) ≠ 0) ∧ (sa (h s) = -1 ∨ A (40 * sa (h s) + sa (h t)) ≠ 0))
theorem nar_bz (P : Prop) [Decidable P] : vp_nar .boolean (zI (bz P)) = zI (bz P) := by
  unfold bz
  split <;> decide
section PRP
variable {n : Int} {kd fa sa g h : Int → Int} {w : S0} {val : Int → Int}
theorem nv_all (hN : NVAL n kd fa sa g h w val) (hv : ∀ x, In n x → val x ≠ -1) {x : Int} (hx : In n x) : In (w.1 3) (val x) ∧ ((h x = -1 ∧ w.2.1 12 (val x) = -1) ∨ (In n (h x) ∧ kd (h x) ≠ -1 ∧ w.2.1 12 (val x) = kd (h x) ∧ w.2.1 13 (val x) = vnF val (fa (h x)) ∧ w.2.1 14 (val x) = vnF val (sa (h x)))) := by
  rcases hN.2.2.1 x hx with ⟨q1, q2, q3⟩ | ⟨q1, q2, q3⟩
  · exact ⟨q2, Or.inl ⟨q1, q3⟩⟩
  · rcases q3 with ⟨r, -⟩ | ⟨r1, r2, r3, r4, -, -⟩
    · exact absurd r (hv x hx)
    · exact ⟨r1, Or.inr ⟨q1, q2, r2, r3, r4⟩⟩
theorem bgn_val (hN : NVAL n kd fa sa g h w val) (hv : ∀ x, In n x → val x ≠ -1) {s t : Int} (hs : In n s) (ht : In n t) (e : val s = val t) : BGN kd g h s t := by
  obtain ⟨a1, a2⟩ := nv_all hN hv hs
  obtain ⟨b1, b2⟩ := nv_all hN hv ht
  rw [e] at a2
  rcases a2 with ⟨a2, a3⟩ | ⟨a2, a3, a4, -⟩ <;> rcases b2 with ⟨b2, b3⟩ | ⟨b2, b3, b4, -⟩
  · exact Or.inl ⟨a2, b2, hN.2.2.2.2.1 s t hs ht a2 b2 e⟩
  · rw [b4] at a3; exact absurd a3 b3
  · rw [b3] at a4; exact absurd a4.symm a3
  · exact Or.inr ⟨by omega, by omega, a4.symm.trans b4⟩
theorem pal_val (T : Tb n kd fa sa) (hN : NVAL n kd fa sa g h w val) (hv : ∀ x, In n x → val x ≠ -1) {A : Int → Int} (hA : ∀ s t, In n s → In n t → val s = val t → A (40 * s + t) ≠ 0) {s t : Int} (hs : In n s) (ht : In n t) (e : val s = val t) : PAL fa sa h A s t := by
  rcases bgn_val hN hv hs ht e with ⟨q, -⟩ | ⟨q1, q2, q3⟩
  · exact Or.inl q
  · right
    obtain ⟨a1, a2⟩ := nv_all hN hv hs
    obtain ⟨b1, b2⟩ := nv_all hN hv ht
    obtain ⟨a2, a3, a4, a5, a6⟩ := a2.resolve_left (fun z => q1 z.1)
    obtain ⟨b2, b3, b4, b5, b6⟩ := b2.resolve_left (fun z => q2 z.1)
    rw [e] at a5 a6
    have fe := T.fa_eq a2 b2 a3 q3
    refine ⟨?_, ?_⟩
    · by_cases c : fa (h s) = -1
      · exact Or.inl c
      · right
        have c' : fa (h t) ≠ -1 := fun z => c (fe.1.mpr z)
        refine hA _ _ (T.fa_in a2 c) (T.fa_in b2 c') ?_
        have x1 : vnF val (fa (h s)) = val (fa (h s)) := if_neg c
        have x2 : vnF val (fa (h t)) = val (fa (h t)) := if_neg c'
        rw [← x1, ← x2, ← a5, ← b5]
    · by_cases c : sa (h s) = -1
      · exact Or.inl c
      · right
        have c' : sa (h t) ≠ -1 := fun z => c (fe.2.mpr z)
        refine hA _ _ (T.sa_in a2 c) (T.sa_in b2 c') ?_
        have x1 : vnF val (sa (h s)) = val (sa (h s)) := if_neg c
        have x2 : vnF val (sa (h t)) = val (sa (h t)) := if_neg c'
        rw [← x1, ← x2, ← a6, ← b6]
/-- a relation that is closed tells equal values -/
theorem bis_val (T : Tb n kd fa sa) (hN : NVAL n kd fa sa g h w val) (hv : ∀ x, In n x → val x ≠ -1) (hD : DV w) {A : Int → Int} (hA : ∀ s t, In n s → In n t → A (40 * s + t) ≠ 0 → BGN kd g h s t ∧ PAL fa sa h A s t) : ∀ (m : Nat) (s t : Int), In n s → In n t → A (40 * s + t) ≠ 0 → (val s).toNat < m → val s = val t
  | 0, _, _, _, _, _, hm => by omega
  | m + 1, s, t, hs, ht, ha, hm => by
    obtain ⟨p1, p2⟩ := hA s t hs ht ha
    rcases p1 with ⟨q, -, q2⟩ | ⟨q1, q2, q3⟩
    · exact hN.2.2.2.1 s t hs ht q2
    · obtain ⟨r1, r2⟩ := p2.resolve_left q1
      obtain ⟨a1, a2⟩ := nv_all hN hv hs
      obtain ⟨b1, b2⟩ := nv_all hN hv ht
      obtain ⟨a2, a3, a4, a5, a6⟩ := a2.resolve_left (fun z => q1 z.1)
      obtain ⟨b2, b3, b4, b5, b6⟩ := b2.resolve_left (fun z => q2 z.1)
      have fe := T.fa_eq a2 b2 a3 q3
      obtain ⟨d1, d2, -⟩ := hN.1.2 _ a1
      refine hD _ _ a1 b1 (by rw [a4]; exact a3) (by rw [a4, b4, q3]) ?_ ?_
      · rw [a5, b5]
        refine vnF_eq fe.1 (fun c => ?_)
        have x1 : w.2.1 13 (val s) = val (fa (h s)) := a5.trans (if_neg c)
        rw [x1] at d1
        have d1 := d1.resolve_left (hv _ (T.fa_in a2 c))
        exact bis_val T hN hv hD hA m _ _ (T.fa_in a2 c) (T.fa_in b2 (fun z => c (fe.1.mpr z))) (r1.resolve_left c) (by omega)
      · rw [a6, b6]
        refine vnF_eq fe.2 (fun c => ?_)
        have x1 : w.2.1 14 (val s) = val (sa (h s)) := a6.trans (if_neg c)
        rw [x1] at d2
        have d2 := d2.resolve_left (hv _ (T.sa_in a2 c))
        exact bis_val T hN hv hD hA m _ _ (T.sa_in a2 c) (T.sa_in b2 (fun z => c (fe.2.mpr z))) (r2.resolve_left c) (by omega)
end PRP
/-- the reference, prepared -/
def PREP (u : S0) (kd fa sa : Int → Int) (w : S0) (val : Int → Int) : Prop := SOL u kd fa sa w val ∧ (∀ x y, In (u.1 2) x → In (u.1 2) y → (u.2.1 7 x = u.2.1 7 y ↔ RR u kd fa sa x y)) ∧ (∀ s t, In (u.1 2) s → In (u.1 2) t → u.2.1 12 (40 * s + t) = bz (val s = val t))
def FPr (σ u : S0) : Prop := (∀ j, j ≠ 4 → u.1 j = σ.1 j) ∧ (∀ j, j < 7 ∨ 13 ≤ j → u.2.1 j = σ.2.1 j)
/-- how the table is filled -/
def AL0 (n : Int) (kd g h A : Int → Int) (x y : Int) : Prop := ∀ s t, In n s → In n t → (s < x ∨ (s = x ∧ t < y)) → A (40 * s + t) = bz (BGN kd g h s t)
theorem al0_next {n : Int} {kd g h A : Int → Int} {x y : Int} (hn : n ≤ 40) (h0 : AL0 n kd g h A x y) (hx : In n x) (hy : In n y) : AL0 n kd g h (ui A (40 * x + y) (bz (BGN kd g h x y))) x (y + 1) := fun s t hs ht ho => by
  by_cases c : 40 * s + t = 40 * x + y
  · have e1 : s = x := by omega
    have e2 : t = y := by omega
    rw [c, ui_at, e1, e2]
  · rw [ui_ne _ _ c]
    exact h0 s t hs ht (by omega)
theorem al0_row {n : Int} {kd g h A : Int → Int} {x : Int} (h0 : AL0 n kd g h A x n) : AL0 n kd g h A (x + 1) 0 := fun s t hs ht ho => h0 s t hs ht (by omega)
/-- while it shrinks -/
def AL1 (n : Int) (kd g h val A : Int → Int) : Prop := ∀ s t, In n s → In n t → (A (40 * s + t) = 0 ∨ A (40 * s + t) = 1) ∧ (A (40 * s + t) ≠ 0 → BGN kd g h s t) ∧ (val s = val t → A (40 * s + t) ≠ 0)
def asm (A : Int → Int) : Int := sm (fun k => bz (A k ≠ 0)) 1600
theorem asm_le (A : Int → Int) : 0 ≤ asm A := sm_nonneg (fun x _ _ => (bz_01 _).1)
theorem al1_cut {n : Int} {kd g h val A : Int → Int} {x y : Int} (hn : n ≤ 40) (h1 : AL1 n kd g h val A) (hx : In n x) (hy : In n y) (ha : A (40 * x + y) ≠ 0) (hno : val x ≠ val y) : AL1 n kd g h val (ui A (40 * x + y) 0) ∧ asm (ui A (40 * x + y) 0) < asm A := by
  constructor
  · intro s t hs ht
    by_cases c : 40 * s + t = 40 * x + y
    · have e1 : s = x := by omega
      have e2 : t = y := by omega
      rw [c, ui_at]
      exact ⟨Or.inl rfl, fun q => absurd rfl q, fun q => absurd (by rw [← e1, ← e2]; exact q) hno⟩
    · rw [ui_ne _ _ c]
      exact h1 s t hs ht
  · have q := sm_dec (f := fun k => bz (ui A (40 * x + y) 0 k ≠ 0)) (g := fun k => bz (A k ≠ 0)) (i := 40 * x + y) (n := 1600) (by omega) (by omega) (fun k _ _ hk => by
      show bz (ui A (40 * x + y) 0 k ≠ 0) = bz (A k ≠ 0)
      rw [ui_ne _ _ hk]) (by
      show bz (ui A (40 * x + y) 0 (40 * x + y) ≠ 0) + 1 = bz (A (40 * x + y) ≠ 0)
      rw [ui_at, bz_t ha, bz_f (fun q => q rfl)]
      rfl)
    unfold asm
    omega
def PL1 (n : Int) (fa sa h A : Int → Int) (x y : Int) : Prop := ∀ s t, In n s → In n t → (s < x ∨ (s = x ∧ t < y)) → A (40 * s + t) ≠ 0 → PAL fa sa h A s t
theorem pl1_next {n : Int} {fa sa h A : Int → Int} {x y : Int} (h0 : PL1 n fa sa h A x y) (h1 : A (40 * x + y) ≠ 0 → PAL fa sa h A x y) : PL1 n fa sa h A x (y + 1) := fun s t hs ht ho => by
  by_cases c : s = x ∧ t = y
  · rw [c.1, c.2]; exact h1
  · exact h0 s t hs ht (by omega)
theorem pl1_row {n : Int} {fa sa h A : Int → Int} {x : Int} (h0 : PL1 n fa sa h A x n) : PL1 n fa sa h A (x + 1) 0 := fun s t hs ht ho => h0 s t hs ht (by omega)
