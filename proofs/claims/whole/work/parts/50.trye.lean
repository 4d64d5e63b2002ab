/-! one equation more -/
theorem vf_same {n : Int} {kd fa sa row : Int → Int} {σ u : S0} (h : VF n kd fa sa row σ) (e3 : u.1 3 = σ.1 3) (e4 : u.1 4 = σ.1 4) (eF : ∀ j, 10 < j → j < 17 → u.2.1 j = σ.2.1 j) (e17 : u.2.2 17 = σ.2.2 17) (e18 : u.2.2 18 = σ.2.2 18) : VF n kd fa sa row u := by
  unfold VF VT VV DV
  rw [e3, e4, eF 11 (by omega) (by omega), eF 12 (by omega) (by omega), eF 13 (by omega) (by omega), eF 14 (by omega) (by omega), eF 15 (by omega) (by omega), eF 16 (by omega) (by omega), e17, e18]
  exact h
theorem vf_frj {n : Int} {kd fa sa row : Int → Int} {σ u : S0} {r : Nat} (h : VF n kd fa sa row σ) (hf : FRj σ u r) : VF n kd fa sa row u :=
  vf_same h (hf.1 3 (by decide)) (hf.1 4 (by decide)) (fun j h1 h2 => hf.2.1 j (by omega) (by omega) (by omega)) (by rw [hf.2.2]) (by rw [hf.2.2])
theorem inv0_frj {σ u : S0} {e1 e2 : Int → Int} {r : Nat} (h : INV0 σ e1 e2) (hf : FRj σ u r) (hr : (r : Int) = σ.1 2 + 1) (ho : Ok u) : INV0 u e1 e2 := by
  obtain ⟨-, h2, h3, h4, h5, h6⟩ := h
  unfold INV0 RowsOk cl
  rw [hf.1 0 (by decide), hf.1 2 (by decide), hf.2.1 5 (by decide) (by decide) (by omega), hf.2.1 6 (by decide) (by decide) (by omega), hf.2.1 7 (by decide) (by decide) (by omega)]
  refine ⟨ho, h2, h3, h4, h5, fun k hk => ?_⟩
  rw [hf.2.1 (21 + k) (by omega) (by omega) (by omega)]
  exact h6 k hk
/-- the same nodes -/
def SN (σ u : S0) : Prop := u.1 0 = σ.1 0 ∧ u.2.1 5 = σ.2.1 5 ∧ u.2.1 6 = σ.2.1 6 ∧ u.2.1 7 = σ.2.1 7
theorem SN.trans {σ τ u : S0} (h : SN σ τ) (g : SN τ u) : SN σ u := ⟨g.1.trans h.1, g.2.1.trans h.2.1, g.2.2.1.trans h.2.2.1, g.2.2.2.trans h.2.2.2⟩
theorem sn_frj {σ u : S0} {r : Nat} (hf : FRj σ u r) : SN σ u := ⟨hf.1 0 (by decide), hf.2.1 5 (by decide) (by decide) (by omega), hf.2.1 6 (by decide) (by decide) (by omega), hf.2.1 7 (by decide) (by decide) (by omega)⟩
theorem sn_frv {σ u : S0} (hf : FRv σ u) : SN σ u := ⟨hf.1, hf.2.2.2.2.1 5 (by omega), hf.2.2.2.2.1 6 (by omega), hf.2.2.2.2.1 7 (by omega)⟩
/-- a loop: the classes can be told apart, but some have no value -/
def Loop (n : Int) (kd fa sa : Int → Int) (R : Int → Int → Prop) : Prop := ∃ (row : Int → Int) (w : S0), RowC n kd fa sa row R ∧ ST n kd fa sa row w
theorem inv_next {σ : S0} {e1 e2 : Int → Int} (h : INV0 σ e1 e2) (h20 : σ.1 2 < 20) (hin : In (σ.1 0) (e1 (σ.1 2)) ∧ In (σ.1 0) (e2 (σ.1 2))) (hrow : RowC (σ.1 0) (σ.2.1 5) (σ.2.1 6) (σ.2.1 7) (σ.2.1 (21 + (σ.1 2 + 1).toNat)) (cl σ e1 e2 (σ.1 2 + 1))) (hv : VF (σ.1 0) (σ.2.1 5) (σ.2.1 6) (σ.2.1 7) (σ.2.1 (21 + (σ.1 2 + 1).toNat)) σ) : INV (stI σ 2 (σ.1 2 + 1)) e1 e2 := by
  obtain ⟨h1, h2, h3, h4, h5, h6⟩ := h
  refine ⟨⟨ok_stI h1 ⟨by omega, by omega⟩, h2, show 0 ≤ σ.1 2 + 1 by omega, show σ.1 2 + 1 ≤ 20 by omega, fun k k0 k1 => ?_, fun k hk => ?_⟩, hv⟩
  · have k1 : k < σ.1 2 + 1 := k1
    by_cases e : k = σ.1 2
    · rw [e]; exact hin
    · exact h5 k k0 (by omega)
  · have hk : (k : Int) ≤ σ.1 2 + 1 := hk
    by_cases e : (k : Int) = σ.1 2 + 1
    · have e2 : k = (σ.1 2 + 1).toNat := by omega
      rw [e]
      rw [e2]
      exact hrow
    · exact h6 k (by omega)
theorem inv_5 {σ : S0} {e1 e2 : Int → Int} {v : Int} (h : INV σ e1 e2) (hv : Rg v) : INV (stI σ 5 v) e1 e2 := by
  obtain ⟨⟨h1, h2, h3, h4, h5, h6⟩, h7⟩ := h
  exact ⟨⟨ok_stI h1 hv, h2, h3, h4, h5, h6⟩, h7⟩
theorem clo_ext {n : Int} {kd fa sa e1 e2 f1 f2 : Int → Int} {E : Int} (h : ∀ k, 0 ≤ k → k < E → e1 k = f1 k ∧ e2 k = f2 k) {x y : Int} (hc : clo n kd fa sa e1 e2 E x y) : clo n kd fa sa f1 f2 E x y := fun r a b c => hc r a (fun k h0 h1 => by rw [(h k h0 h1).1, (h k h0 h1).2]; exact b k h0 h1) c
theorem inv_ext {σ : S0} {e1 e2 f1 f2 : Int → Int} (h : INV σ e1 e2) (he : ∀ k, 0 ≤ k → k < σ.1 2 → e1 k = f1 k ∧ e2 k = f2 k) : INV σ f1 f2 := by
  obtain ⟨⟨h1, h2, h3, h4, h5, h6⟩, h7⟩ := h
  refine ⟨⟨h1, h2, h3, h4, fun k k0 k1 => ?_, fun k hk => ?_⟩, h7⟩
  · rw [← (he k k0 k1).1, ← (he k k0 k1).2]; exact h5 k k0 k1
  · obtain ⟨r1, r2, r3, r4⟩ := h6 k hk
    refine ⟨r1, fun x y hx hy => (r2 x y hx hy).trans ⟨clo_ext (fun i i0 i1 => he i i0 (by omega)), clo_ext (fun i i0 i1 => ⟨(he i i0 (by omega)).1.symm, (he i i0 (by omega)).2.symm⟩)⟩, r3, r4⟩
/-- undoing: the row of fewer equations -/
theorem inv0_less {σ : S0} {e1 e2 : Int → Int} {v : Int} (h : INV0 σ e1 e2) (h0 : 0 ≤ v) (h1 : v ≤ σ.1 2) : INV0 (stI σ 2 v) e1 e2 := by
  obtain ⟨a1, a2, a3, a4, a5, a6⟩ := h
  refine ⟨ok_stI a1 ⟨by omega, by omega⟩, a2, h0, show v ≤ 20 by omega, fun k k0 k1 => ?_, fun k hk => ?_⟩
  · have k1 : k < v := k1
    exact a5 k k0 (by omega)
  · have hk : (k : Int) ≤ v := hk
    exact a6 k (by omega)
/-- no stuck class while the kept equations have a solution -/
theorem not_st {σ : S0} {e1 e2 : Int → Int} (h : INV σ e1 e2) {k : Nat} (hk : (k : Int) ≤ σ.1 2) {w : S0} (hs : ST (σ.1 0) (σ.2.1 5) (σ.2.1 6) (σ.2.1 7) (σ.2.1 (21 + k)) w) : False := by
  have hT := h.1.2.1
  have hk2 := h.1.2.2.2.2.2 k hk
  exact rank_ok hT hk2.1 (rank_vf hT (inv_row h.1) hk2 (fun x y q => clo_mono hk q) h.2) hs
/-- .. nor behind a new node -/
theorem not_st_new {σ : S0} {e1 e2 : Int → Int} (h : INV σ e1 e2) (hn : σ.1 0 < 40) {k a b : Int} (hN : NewOk (σ.1 0) k a b) {w : S0} (hs : ST (σ.1 0 + 1) (ui (σ.2.1 5) (σ.1 0) k) (ui (σ.2.1 6) (σ.1 0) a) (ui (σ.2.1 7) (σ.1 0) b) (kr σ) w) : False := by
  have hT := h.1.2.1
  have hr := inv_row h.1
  have h5 := h.1.2.2.2.2.1
  have hv := h.2
  refine rank_ok (tb_new hT hn hN) (rowc_new (k := k) (a := a) (b := b) hT hn h5 hr).1 (rank_new hT hr.1 (hr.2.2.2 _ (Int.le_refl _) hn) hN (fun x hx => ?_) (rank_vf hT hr hr (fun _ _ q => q) hv)) hs
  have q := (hv.2.2.2.1 x hx).1
  have q2 := hv.2.2.1
  omega
section TRY
variable {σ u1 u2 : S0} {e1 e2 : Int → Int}
theorem try_clash (hI : INV σ e1 e2) (jF : FRj σ u1 (σ.1 2 + 1).toNat) (jO : Ok u1) : INV u1 e1 e2 := by
  have h0 := hI.1.2.2.1
  refine ⟨inv0_frj hI.1 jF (by omega) jO, ?_⟩
  obtain ⟨s0, s5, s6, s7⟩ := sn_frj jF
  unfold kr
  rw [s0, s5, s6, s7, jF.1 2 (by decide), jF.2.1 (21 + (σ.1 2).toNat) (by omega) (by omega) (by omega)]
  exact vf_frj hI.2 jF
theorem try_ok (hI : INV σ e1 e2) (h20 : σ.1 2 < 20) (hin : In (σ.1 0) (e1 (σ.1 2)) ∧ In (σ.1 0) (e2 (σ.1 2))) (jF : FRj σ u1 (σ.1 2 + 1).toNat) (jO : Ok u1) (hrow : RowC (σ.1 0) (σ.2.1 5) (σ.2.1 6) (σ.2.1 7) (u1.2.1 (21 + (σ.1 2 + 1).toNat)) (cl σ e1 e2 (σ.1 2 + 1))) (pF : FRv u1 u2) (pO : Ok u2) (pv : VF (u1.1 0) (u1.2.1 5) (u1.2.1 6) (u1.2.1 7) (u1.2.1 (21 + (σ.1 2 + 1).toNat)) u2) : INV (stI u2 2 (u2.1 2 + 1)) e1 e2 := by
  have h0 := hI.1.2.2.1
  have hi := inv_settled (inv0_frj hI.1 jF (by omega) jO) pF pO
  obtain ⟨s0, s5, s6, s7⟩ := sn_frj jF
  obtain ⟨t0, t5, t6, t7⟩ := sn_frv pF
  have k2 : u2.1 2 = σ.1 2 := pF.2.2.1.trans (jF.1 2 (by decide))
  have kr2 : u2.2.1 (21 + (σ.1 2 + 1).toNat) = u1.2.1 (21 + (σ.1 2 + 1).toNat) := pF.2.2.2.2.1 _ (by omega)
  refine inv_next hi (by omega) ?_ ?_ ?_
  · rw [k2, t0, s0]; exact hin
  · unfold cl
    rw [k2, kr2, t0, t5, t6, t7, s0, s5, s6, s7]
    exact hrow
  · rw [k2, kr2, t0, t5, t6, t7]
    exact pv
theorem try_loop (jF : FRj σ u1 (σ.1 2 + 1).toNat) (hrow : RowC (σ.1 0) (σ.2.1 5) (σ.2.1 6) (σ.2.1 7) (u1.2.1 (21 + (σ.1 2 + 1).toNat)) (cl σ e1 e2 (σ.1 2 + 1))) (ps : ST (u1.1 0) (u1.2.1 5) (u1.2.1 6) (u1.2.1 7) (u1.2.1 (21 + (σ.1 2 + 1).toNat)) u2) : Loop (σ.1 0) (σ.2.1 5) (σ.2.1 6) (σ.2.1 7) (cl σ e1 e2 (σ.1 2 + 1)) := by
  obtain ⟨s0, s5, s6, s7⟩ := sn_frj jF
  rw [s0, s5, s6, s7] at ps
  exact ⟨_, _, hrow, ps⟩
theorem try_kept (hI : INV σ e1 e2) (jF : FRj σ u1 (σ.1 2 + 1).toNat) (jO : Ok u1) (pF : FRv u1 u2) (pO : Ok u2) : INV0 u2 e1 e2 := inv_settled (inv0_frj hI.1 jF (by have := hI.1.2.2.1; omega) jO) pF pO
theorem try_back {u3 : S0} {z : Int} (hI : INV σ e1 e2) (jF : FRj σ u1 (σ.1 2 + 1).toNat) (jO : Ok u1) (pF : FRv u1 u2) (pO : Ok u2) (qF : FRv u2 u3) (qO : Ok u3) (q : (1 = z ∧ VF (u2.1 0) (u2.2.1 5) (u2.2.1 6) (u2.2.1 7) (u2.2.1 (21 + (u2.1 2).toNat)) u3) ∨ (0 = z ∧ ST (u2.1 0) (u2.2.1 5) (u2.2.1 6) (u2.2.1 7) (u2.2.1 (21 + (u2.1 2).toNat)) u3)) : INV u3 e1 e2 := by
  have h0 := hI.1.2.2.1
  have hi := try_kept hI jF jO pF pO
  refine ⟨inv_settled hi qF qO, ?_⟩
  rcases q with ⟨-, q⟩ | ⟨-, q⟩
  · exact vf_settled qF rfl q
  · obtain ⟨s0, s5, s6, s7⟩ := (sn_frj jF).trans (sn_frv pF)
    have k2 : u2.1 2 = σ.1 2 := pF.2.2.1.trans (jF.1 2 (by decide))
    have kr2 : u2.2.1 (21 + (σ.1 2).toNat) = σ.2.1 (21 + (σ.1 2).toNat) := (pF.2.2.2.2.1 _ (by omega)).trans (jF.2.1 _ (by omega) (by omega) (by omega))
    rw [k2, kr2, s0, s5, s6, s7] at q
    exact (not_st hI (by omega) q).elim
end TRY
