/-! the state of a TermWeaver between two calls -/
/-- an order in which the values can be found -/
def Rank (n : Int) (kd fa sa row ρ : Int → Int) : Prop := (∀ x, In n x → 0 ≤ ρ x) ∧ (∀ x y, In n x → In n y → row x = row y → ρ x = ρ y) ∧ (∀ x, In n x → kd x ≠ -1 → (fa x ≠ -1 → ρ (fa x) < ρ x) ∧ (sa x ≠ -1 → ρ (sa x) < ρ x))
theorem rank_ok {n : Int} {kd fa sa row ρ : Int → Int} {u : S0} (T : Tb n kd fa sa) (hR : RowOk n kd row) (h : Rank n kd fa sa row ρ) (hs : ST n kd fa sa row u) : False := by
  obtain ⟨hS, h1, y0, y1, y2, y3⟩ := hs
  have key : ∀ (m : Nat) (y : Int), In n y → row y = y → u.2.1 11 y = -1 → ρ y < (m : Int) → False := by
    intro m
    induction m with
    | zero => intro y hy _ _ hm; have := h.1 y hy; omega
    | succ m ih =>
      intro y hy hr hv hm
      have hna := h1 y hy hr hv
      have hk : kd y ≠ -1 := fun q => hna (by
        obtain ⟨f1, f2⟩ := (T.2.2 y hy).2.2.2.1 q
        exact ⟨Or.inl f1, Or.inl f2⟩)
      obtain ⟨r1, r2⟩ := h.2.2 y hy hk
      have case : ∀ a, In n a → ρ a < ρ y → u.2.1 11 (row a) = -1 → False := fun a ha hlt hv => by
        obtain ⟨q1, q2, -⟩ := hR a ha
        exact ih (row a) q1 q2 hv (by rw [h.2.1 (row a) a q1 ha q2]; omega)
      refine hna ⟨?_, ?_⟩
      · by_cases c : fa y = -1
        · exact Or.inl c
        · right
          rw [vuF_ne c]
          exact fun q => case _ (T.fa_in hy c) (r1 c) q
      · by_cases c : sa y = -1
        · exact Or.inl c
        · right
          rw [vuF_ne c]
          exact fun q => case _ (T.sa_in hy c) (r2 c) q
  exact key ((ρ y0).toNat + 1) y0 y1 y2 y3 (by have := h.1 y0 y1; omega)
/-- values are such an order, also for fewer equations -/
theorem rank_vf {n : Int} {kd fa sa row row' : Int → Int} {R R' : Int → Int → Prop} {u : S0} (T : Tb n kd fa sa) (hC : RowC n kd fa sa row R) (hC' : RowC n kd fa sa row' R') (hsub : ∀ x y, R' x y → R x y) (h : VF n kd fa sa row u) : Rank n kd fa sa row' (u.2.1 11) := by
  obtain ⟨v1, v2, v3, v4, v5, -⟩ := h
  obtain ⟨c1, c2, c3, -⟩ := hC
  refine ⟨fun x hx => (v4 x hx).1.1, fun x y hx hy e => v5 x y hx hy ((c2 x y hx hy).mpr (hsub _ _ ((hC'.2.1 x y hx hy).mp e))), fun x hx hk => ?_⟩
  obtain ⟨a1, a2, a3, a4⟩ := v4 x hx
  obtain ⟨b1, b2, b3⟩ := c3 x hx hk
  have hr := (c1 x hx).1
  have hfe := T.fa_eq hx hr hk b1.symm
  obtain ⟨d1, d2, -⟩ := v1.2 _ a1
  refine ⟨fun q => ?_, fun q => ?_⟩
  · have q' : fa (row x) ≠ -1 := fun z => q (hfe.1.mpr z)
    have e1 : u.2.1 11 (fa x) = u.2.1 11 (fa (row x)) := v5 _ _ (T.fa_in hx q) (T.fa_in hr q') (b2 q)
    have e2 : u.2.1 13 (u.2.1 11 x) = u.2.1 11 (fa (row x)) := by rw [a3]; exact if_neg q'
    have hi := (v4 _ (T.fa_in hr q')).1
    rw [e2] at d1
    rw [e1]
    omega
  · have q' : sa (row x) ≠ -1 := fun z => q (hfe.2.mpr z)
    have e1 : u.2.1 11 (sa x) = u.2.1 11 (sa (row x)) := v5 _ _ (T.sa_in hx q) (T.sa_in hr q') (b3 q)
    have e2 : u.2.1 14 (u.2.1 11 x) = u.2.1 11 (sa (row x)) := by rw [a4]; exact if_neg q'
    have hi := (v4 _ (T.sa_in hr q')).1
    rw [e2] at d2
    rw [e1]
    omega
abbrev cl (σ : S0) (e1 e2 : Int → Int) (E : Int) : Int → Int → Prop := clo (σ.1 0) (σ.2.1 5) (σ.2.1 6) (σ.2.1 7) e1 e2 E
def RowsOk (σ : S0) (e1 e2 : Int → Int) : Prop := ∀ k : Nat, (k : Int) ≤ σ.1 2 → RowC (σ.1 0) (σ.2.1 5) (σ.2.1 6) (σ.2.1 7) (σ.2.1 (21 + k)) (cl σ e1 e2 (k : Int))
abbrev kr (σ : S0) : Int → Int := σ.2.1 (21 + (σ.1 2).toNat)
/-- all of it but the values -/
def INV0 (σ : S0) (e1 e2 : Int → Int) : Prop := Ok σ ∧ Tb (σ.1 0) (σ.2.1 5) (σ.2.1 6) (σ.2.1 7) ∧ 0 ≤ σ.1 2 ∧ σ.1 2 ≤ 20 ∧ (∀ k, 0 ≤ k → k < σ.1 2 → In (σ.1 0) (e1 k) ∧ In (σ.1 0) (e2 k)) ∧ RowsOk σ e1 e2
def INV (σ : S0) (e1 e2 : Int → Int) : Prop := INV0 σ e1 e2 ∧ VF (σ.1 0) (σ.2.1 5) (σ.2.1 6) (σ.2.1 7) (kr σ) σ
theorem inv_row {σ : S0} {e1 e2 : Int → Int} (h : INV0 σ e1 e2) : RowC (σ.1 0) (σ.2.1 5) (σ.2.1 6) (σ.2.1 7) (kr σ) (cl σ e1 e2 (σ.1 2)) := by
  have h1 := h.2.2.2.2.2 (σ.1 2).toNat (by have := h.2.2.1; omega)
  rw [Int.toNat_of_nonneg h.2.2.1] at h1
  exact h1
/-- settling leaves INV0 -/
theorem inv_settled {σ u : S0} {e1 e2 : Int → Int} (h : INV0 σ e1 e2) (hf : FRv σ u) (ho : Ok u) : INV0 u e1 e2 := by
  obtain ⟨-, h2, h3, h4, h5, h6⟩ := h
  obtain ⟨f0, f1, f2, f5, fF, -⟩ := hf
  have e5 := fF 5 (by omega)
  have e6 := fF 6 (by omega)
  have e7 := fF 7 (by omega)
  unfold INV0 RowsOk cl
  rw [f0, f2, e5, e6, e7]
  refine ⟨ho, h2, h3, h4, h5, fun k hk => ?_⟩
  rw [fF (21 + k) (by omega)]
  exact h6 k hk
theorem vf_settled {σ u : S0} {row : Int → Int} (hf : FRv σ u) (hrow : row = σ.2.1 (21 + (σ.1 2).toNat)) (h : VF (σ.1 0) (σ.2.1 5) (σ.2.1 6) (σ.2.1 7) row u) : VF (u.1 0) (u.2.1 5) (u.2.1 6) (u.2.1 7) (kr u) u := by
  obtain ⟨f0, f1, f2, f5, fF, -⟩ := hf
  unfold kr
  rw [f0, f2, fF 5 (by omega), fF 6 (by omega), fF 7 (by omega), fF (21 + (σ.1 2).toNat) (by omega), ← hrow]
  exact h
/-- a new node -/
def mkn (σ : S0) (k a b : Int) : S0 := stI (stF (stF (stF σ 5 (σ.1 0) k) 6 (σ.1 0) a) 7 (σ.1 0) b) 0 (σ.1 0 + 1)
def NewOk (n k a b : Int) : Prop := (k = -1 ∨ (0 ≤ k ∧ k < 30)) ∧ (a = -1 ∨ In n a) ∧ (b = -1 ∨ In n b) ∧ (k = -1 → a = -1 ∧ b = -1) ∧ (k ≠ -1 → (a = -1 ↔ k % 3 = 0) ∧ (b = -1 ↔ k % 3 ≠ 2))
theorem tb_new {n : Int} {kd fa sa : Int → Int} {k a b : Int} (T : Tb n kd fa sa) (hn : n < 40) (h : NewOk n k a b) : Tb (n + 1) (ui kd n k) (ui fa n a) (ui sa n b) := by
  refine ⟨by have := T.1; omega, by omega, fun x hx => ?_⟩
  by_cases e : x = n
  · subst e
    rw [ui_at, ui_at, ui_at]
    obtain ⟨h1, h2, h3, h4, h5⟩ := h
    exact ⟨h1, h2, h3, h4, h5⟩
  · rw [ui_ne _ _ e, ui_ne _ _ e, ui_ne _ _ e]
    exact T.2.2 x ⟨hx.1, by omega⟩
/-- the new node is alone in its class -/
theorem clo_new {n : Int} {kd fa sa e1 e2 : Int → Int} {E k a b : Int} (T : Tb n kd fa sa) (he : ∀ k, 0 ≤ k → k < E → In n (e1 k) ∧ In n (e2 k)) {x y : Int} : clo (n + 1) (ui kd n k) (ui fa n a) (ui sa n b) e1 e2 E x y ↔ (x = y ∨ (In n x ∧ In n y ∧ clo n kd fa sa e1 e2 E x y)) := by
  have hE := clo_eqv n kd fa sa e1 e2 E
  constructor
  · intro h
    refine h (fun x y => x = y ∨ (In n x ∧ In n y ∧ clo n kd fa sa e1 e2 E x y)) ⟨fun _ => Or.inl rfl, fun x y q => ?_, fun x y z q q' => ?_⟩ (fun i i0 i1 => Or.inr ⟨(he i i0 i1).1, (he i i0 i1).2, clo_eq _ _ _ _ _ _ _ i0 i1⟩) (fun u v hu hv hk hkk q => ?_)
    · rcases q with q | ⟨q1, q2, q3⟩
      · exact Or.inl q.symm
      · exact Or.inr ⟨q2, q1, hE.2.1 _ _ q3⟩
    · rcases q with q | ⟨q1, q2, q3⟩
      · rw [q]; exact q'
      · rcases q' with q' | ⟨p1, p2, p3⟩
        · rw [← q']; exact Or.inr ⟨q1, q2, q3⟩
        · exact Or.inr ⟨q1, p2, hE.2.2 _ _ _ q3 p3⟩
    · rcases q with q | ⟨q1, q2, q3⟩
      · subst q
        exact ⟨fun _ => Or.inl rfl, fun _ => Or.inl rfl⟩
      · have n1 : u ≠ n := by omega
        have n2 : v ≠ n := by omega
        rw [ui_ne _ _ n1] at hk
        rw [ui_ne _ _ n1, ui_ne _ _ n2] at hkk
        rw [ui_ne _ _ n1, ui_ne _ _ n2, ui_ne _ _ n1, ui_ne _ _ n2]
        obtain ⟨c1, c2⟩ := clo_cl n kd fa sa e1 e2 E u v q1 q2 hk hkk q3
        have fe := T.fa_eq q1 q2 hk hkk
        exact ⟨fun z => Or.inr ⟨T.fa_in q1 z, T.fa_in q2 (fun w => z (fe.1.mpr w)), c1 z⟩, fun z => Or.inr ⟨T.sa_in q1 z, T.sa_in q2 (fun w => z (fe.2.mpr w)), c2 z⟩⟩
  · intro h
    rcases h with h | ⟨h1, h2, h3⟩
    · rw [h]
      exact (clo_eqv _ _ _ _ _ _ _).1 y
    · intro r ra rb rc
      refine h3 r ra rb (fun u v hu hv hk hkk q => ?_)
      have n1 : u ≠ n := by omega
      have n2 : v ≠ n := by omega
      have key := rc u v ⟨hu.1, by omega⟩ ⟨hv.1, by omega⟩ (by rw [ui_ne _ _ n1]; exact hk) (by rw [ui_ne _ _ n1, ui_ne _ _ n2]; exact hkk) q
      rw [ui_ne _ _ n1, ui_ne _ _ n2, ui_ne _ _ n1, ui_ne _ _ n2] at key
      exact key
theorem rowc_new {n : Int} {kd fa sa e1 e2 row : Int → Int} {E k a b : Int} (T : Tb n kd fa sa) (h40 : n < 40) (he : ∀ k, 0 ≤ k → k < E → In n (e1 k) ∧ In n (e2 k)) (h : RowC n kd fa sa row (clo n kd fa sa e1 e2 E)) : RowC (n + 1) (ui kd n k) (ui fa n a) (ui sa n b) row (clo (n + 1) (ui kd n k) (ui fa n a) (ui sa n b) e1 e2 E) := by
  obtain ⟨h1, h2, h3, h4⟩ := h
  have hn := h4 n (Int.le_refl _) h40
  have hn0 := T.1
  refine ⟨fun x hx => ?_, fun x y hx hy => ?_, fun x hx hk => ?_, fun x hx hx4 => h4 x (by omega) hx4⟩
  · by_cases e : x = n
    · subst e
      rw [hn]
      exact ⟨hx, hn, fun q => q⟩
    · obtain ⟨r1, r2, r3⟩ := h1 x ⟨hx.1, by omega⟩
      have e2 : row x ≠ n := by omega
      rw [ui_ne _ _ e, ui_ne _ _ e2]
      exact ⟨⟨r1.1, by omega⟩, r2, r3⟩
  · rw [clo_new T he]
    by_cases e : x = n
    · by_cases e' : y = n
      · rw [e, e']
        exact ⟨fun _ => Or.inl rfl, fun _ => rfl⟩
      · have r := (h1 y ⟨hy.1, by omega⟩).1
        rw [e, hn]
        constructor
        · intro q; omega
        · intro q
          rcases q with q | ⟨q, -⟩ <;> omega
    · by_cases e' : y = n
      · have r := (h1 x ⟨hx.1, by omega⟩).1
        rw [e', hn]
        constructor
        · intro q; omega
        · intro q
          rcases q with q | ⟨-, q, -⟩ <;> omega
      · have ix : In n x := ⟨hx.1, by omega⟩
        have iy : In n y := ⟨hy.1, by omega⟩
        rw [h2 x y ix iy]
        constructor
        · intro q; exact Or.inr ⟨ix, iy, q⟩
        · intro q
          rcases q with q | ⟨-, -, q⟩
          · rw [q]; exact (clo_eqv _ _ _ _ _ _ _).1 y
          · exact q
  · by_cases e : x = n
    · subst e
      rw [hn]
      exact ⟨rfl, fun _ => rfl, fun _ => rfl⟩
    · have ix : In n x := ⟨hx.1, by omega⟩
      have e2 : row x ≠ n := by have := (h1 x ix).1; omega
      rw [ui_ne _ _ e] at hk
      rw [ui_ne _ _ e, ui_ne _ _ e, ui_ne _ _ e, ui_ne _ _ e2, ui_ne _ _ e2, ui_ne _ _ e2]
      exact h3 x ix hk
theorem rank_new {n : Int} {kd fa sa row ρ : Int → Int} {k a b : Int} (T : Tb n kd fa sa) (hR : RowOk n kd row) (hb : row n = n) (hN : NewOk n k a b) (hρ : ∀ x, In n x → ρ x < 41) (h : Rank n kd fa sa row ρ) : Rank (n + 1) (ui kd n k) (ui fa n a) (ui sa n b) row (ui ρ n 41) := by
  obtain ⟨h1, h2, h3⟩ := h
  have hn := hb
  refine ⟨fun x hx => ?_, fun x y hx hy e => ?_, fun x hx hk => ?_⟩
  · by_cases c : x = n
    · rw [c, ui_at]; omega
    · rw [ui_ne _ _ c]; exact h1 x ⟨hx.1, by omega⟩
  · by_cases c : x = n
    · by_cases c' : y = n
      · rw [c, c']
      · have r := (hR y ⟨hy.1, by omega⟩).1
        rw [c, hn] at e
        omega
    · by_cases c' : y = n
      · have r := (hR x ⟨hx.1, by omega⟩).1
        rw [c', hn] at e
        omega
      · rw [ui_ne _ _ c, ui_ne _ _ c']
        exact h2 x y ⟨hx.1, by omega⟩ ⟨hy.1, by omega⟩ e
  · by_cases c : x = n
    · subst c
      rw [ui_at, ui_at, ui_at]
      obtain ⟨-, n2, n3, -⟩ := hN
      refine ⟨fun q => ?_, fun q => ?_⟩
      · have ia : In x a := n2.resolve_left q
        rw [ui_ne _ _ (by omega)]
        exact hρ a ia
      · have ib : In x b := n3.resolve_left q
        rw [ui_ne _ _ (by omega)]
        exact hρ b ib
    · have ix : In n x := ⟨hx.1, by omega⟩
      rw [ui_ne _ _ c] at hk
      rw [ui_ne fa _ c, ui_ne sa _ c, ui_ne ρ _ c]
      obtain ⟨q1, q2⟩ := h3 x ix hk
      refine ⟨fun q => ?_, fun q => ?_⟩
      · have := T.fa_in ix q
        rw [ui_ne _ _ (by omega)]
        exact q1 q
      · have := T.sa_in ix q
        rw [ui_ne _ _ (by omega)]
        exact q2 q
theorem inv0_mkn {σ : S0} {e1 e2 : Int → Int} {k a b : Int} (h : INV0 σ e1 e2) (hn : σ.1 0 < 40) (hN : NewOk (σ.1 0) k a b) : INV0 (mkn σ k a b) e1 e2 := by
  obtain ⟨h1, h2, h3, h4, h5, h6⟩ := h
  have hn0 := h2.1
  have hN9 := hN
  obtain ⟨m1, m2, m3, -⟩ := hN9
  have ok : Ok (mkn σ k a b) := ok_stI (ok_stF (ok_stF (ok_stF h1 ⟨by omega, by omega⟩) ⟨by omega, by omega⟩) ⟨by omega, by omega⟩) ⟨by omega, by omega⟩
  have e5 : (mkn σ k a b).2.1 5 = ui (σ.2.1 5) (σ.1 0) k := rfl
  have e6 : (mkn σ k a b).2.1 6 = ui (σ.2.1 6) (σ.1 0) a := rfl
  have e7 : (mkn σ k a b).2.1 7 = ui (σ.2.1 7) (σ.1 0) b := rfl
  have e0 : (mkn σ k a b).1 0 = σ.1 0 + 1 := rfl
  have e2' : (mkn σ k a b).1 2 = σ.1 2 := rfl
  unfold INV0 RowsOk cl
  rw [e0, e5, e6, e7, e2']
  refine ⟨ok, tb_new h2 hn hN, h3, h4, fun i i0 i1 => ?_, fun i hi => ?_⟩
  · obtain ⟨q1, q2⟩ := h5 i i0 i1
    exact ⟨⟨q1.1, by omega⟩, ⟨q2.1, by omega⟩⟩
  · have er : (mkn σ k a b).2.1 (21 + i) = σ.2.1 (21 + i) := by
      show (stR (stR (stR σ 5 _) 6 _) 7 _).2.1 (21 + i) = _
      rw [stR_ne _ _ (by omega), stR_ne _ _ (by omega), stR_ne _ _ (by omega)]
    rw [er]
    exact rowc_new h2 hn (fun j j0 j1 => h5 j j0 (by omega)) (h6 i hi)
