/-! the law's loop -/
theorem and15 (x : Int32) : 0 ≤ (x &&& zI 15).toInt ∧ (x &&& zI 15).toInt ≤ 15 := by
  have e : (x &&& zI 15).toInt = ((x &&& zI 15).toBitVec.toNat : Int) := by
    have h : (x &&& zI 15).toBitVec.toNat ≤ 15 := by
      have e1 : (x &&& zI 15).toBitVec = x.toBitVec &&& (zI 15).toBitVec := Int32.toBitVec_and _ _
      rw [e1, BitVec.toNat_and]
      exact Nat.le_trans Nat.and_le_right (by decide)
    exact BitVec.toInt_eq_toNat_of_lt (by omega)
  have h : (x &&& zI 15).toBitVec.toNat ≤ 15 := by
    have e1 : (x &&& zI 15).toBitVec = x.toBitVec &&& (zI 15).toBitVec := Int32.toBitVec_and _ _
    rw [e1, BitVec.toNat_and]
    exact Nat.le_trans Nat.and_le_right (by decide)
  rw [e]
  omega
def opc (xs : Nat → Int32) (i : Int) : Int := (zI (sx xs i) &&& zI 15).toInt
theorem opc_eq (xs : Nat → Int32) (i : Int) : zI (sx xs i) &&& zI 15 = zI (opc xs i) := (Int32.ofInt_toInt _).symm
theorem law_loop {κ : Kx} {b L bo : Nat} {xs : Nat → Int32} {adT adM : Nat → Nat} (Z : Zx κ) (N9 : NC κ.1.2.2.2.1) (hX : Scr κ b L xs) (hend : ∀ (w : va_W) (k n : Nat) (lv : List (Nat × Value)), k ≤ 601024 → n ≤ 7293034 → X κ room_1 rc_L cd_L_law 8 w k n 972 lv [.int (zI 1)]) {τ σ : S0} {f : Int → Int} (h : REL τ σ) :
    X κ room_1 rc_L cd_L_law 8 (WD κ.2.2.1.2.2 adT adM bo (τ, f) σ) 99 8431 23 (lvL b bo adT adM 0) [] := by
  have hL := hX.2.2.2
  have key : ∀ q : Int × (S0 × (Int → Int)) × S0, (REL q.2.1.1 q.2.2 ∧ 0 ≤ q.1 ∧ q.1 ≤ (L : Int)) → X κ room_1 rc_L cd_L_law 8 (WD κ.2.2.1.2.2 adT adM bo q.2.1 q.2.2) (99 + q.1.toNat) (8431 + 6 * q.1.toNat) 23 (lvL b bo adT adM q.1) [] := by
    refine x_loop (α := Int × (S0 × (Int → Int)) × S0) (fun q => X κ room_1 rc_L cd_L_law 8 (WD κ.2.2.1.2.2 adT adM bo q.2.1 q.2.2) (99 + q.1.toNat) (8431 + 6 * q.1.toNat) 23 (lvL b bo adT adM q.1) []) (fun q => REL q.2.1.1 q.2.2 ∧ 0 ≤ q.1 ∧ q.1 ≤ (L : Int)) (fun q => ((L : Int) - q.1).toNat) (fun q hq ih => ?_)
    obtain ⟨i, ⟨τ, f⟩, σ⟩ := q
    obtain ⟨h, i0, iL⟩ := hq
    dsimp only at h i0 iL ih ⊢
    refine x_iload dx_L_law_23 rfl ?_
    refine x_aload_n dx_L_law_25 rfl rfl ?_
    refine x_slen hX dx_L_law_26 ?_
    refine x_iconst dx_L_law_27 ?_
    refine x_isub dx_L_law_28 ?_
    refine x_icmp_gt (tgt := 971) dx_L_law_29 (by decide) ⟨by omega, by omega⟩ ⟨by omega, by omega⟩ (fun _ => ?_) (fun h4 => ?_)
    · refine x_iconst dx_L_law_971 ?_
      exact hend _ _ _ _ (by omega) (by omega)
    have hh : LH κ b L xs i (99 + i.toNat) (8431 + 6 * i.toNat) := ⟨Z, N9, hX, i0, by omega, by omega, by omega⟩
    have kk : LK κ b bo adT adM i (99 + i.toNat) (8431 + 6 * i.toNat) := by
      intro u σ' hR
      refine x_iinc (c := 4) dx_L_law_965 rfl (by decide) ?_
      refine x_goto (tgt := 23) dx_L_law_968 (by decide) ?_
      refine x_lv (lvL b bo adT adM (i + 4)) rfl ?_
      refine x_widen ?_ ?_ (ih (i + 4, u, σ') ⟨hR, by dsimp only; omega, by dsimp only; omega⟩ (by dsimp only; omega))
      · dsimp only; omega
      · dsimp only; omega
    refine x_aload_n dx_L_law_32 rfl rfl ?_
    refine x_iload dx_L_law_33 rfl ?_
    refine x_sld hX i0 (by omega) dx_L_law_35 ?_
    refine x_bipush (z := 15) dx_L_law_36 (by decide) ?_
    refine x_iand dx_L_law_38 (opc_eq xs i) ?_
    obtain ⟨o0, o1⟩ := and15 (zI (sx xs i))
    have o0 : 0 ≤ opc xs i := o0
    have o1 : opc xs i ≤ 15 := o1
    have ro : Rg (opc xs i) := ⟨by omega, by omega⟩
    have cs : opc xs i = 0 ∨ opc xs i = 1 ∨ opc xs i = 2 ∨ opc xs i = 3 ∨ opc xs i = 4 ∨ opc xs i = 5 ∨ opc xs i = 6 ∨ opc xs i = 7 ∨ opc xs i = 8 ∨ opc xs i = 9 ∨ opc xs i = 10 ∨ opc xs i = 11 ∨ opc xs i = 12 ∨ opc xs i = 13 ∨ 13 < opc xs i := by omega
    rcases cs with e | e | e | e | e | e | e | e | e | e | e | e | e | e | e
    · exact x_tabI (tgt := 108) dx_L_law_39 ro (by omega) (by omega) (by rw [e]; rfl) (by decide) (w_variable hh h kk)
    · exact x_tabI (tgt := 152) dx_L_law_39 ro (by omega) (by omega) (by rw [e]; rfl) (by decide) (w_term hh h kk)
    · exact x_tabI (tgt := 232) dx_L_law_39 ro (by omega) (by omega) (by rw [e]; rfl) (by decide) (w_unify hh h kk)
    · exact x_tabI (tgt := 300) dx_L_law_39 ro (by omega) (by omega) (by rw [e]; rfl) (by decide) (w_why hh h kk)
    · exact x_tabI (tgt := 313) dx_L_law_39 ro (by omega) (by omega) (by rw [e]; rfl) (by decide) (w_undo hh h kk)
    · exact x_tabI (tgt := 369) dx_L_law_39 ro (by omega) (by omega) (by rw [e]; rfl) (by decide) (w_count hh h kk)
    · exact x_tabI (tgt := 425) dx_L_law_39 ro (by omega) (by omega) (by rw [e]; rfl) (by decide) (w_same hh h kk)
    · exact x_tabI (tgt := 500) dx_L_law_39 ro (by omega) (by omega) (by rw [e]; rfl) (by decide) (w_leader hh h kk)
    · exact x_tabI (tgt := 556) dx_L_law_39 ro (by omega) (by omega) (by rw [e]; rfl) (by decide) (w_size hh h kk)
    · exact x_tabI (tgt := 611) dx_L_law_39 ro (by omega) (by omega) (by rw [e]; rfl) (by decide) (w_depth hh h kk)
    · exact x_tabI (tgt := 667) dx_L_law_39 ro (by omega) (by omega) (by rw [e]; rfl) (by decide) (w_variables hh h kk)
    · exact x_tabI (tgt := 723) dx_L_law_39 ro (by omega) (by omega) (by rw [e]; rfl) (by decide) (w_at hh h kk)
    · exact x_tabI (tgt := 823) dx_L_law_39 ro (by omega) (by omega) (by rw [e]; rfl) (by decide) (w_matches hh h kk)
    · exact x_tabI (tgt := 898) dx_L_law_39 ro (by omega) (by omega) (by rw [e]; rfl) (by decide) (w_common hh h kk)
    · refine x_tabO (tgt := 965) dx_L_law_39 ro e (by decide) ?_
      exact x_widen (by omega) (by omega) (kk (τ, f) σ h)
  exact key (0, (τ, f), σ) ⟨h, Int.le_refl 0, by dsimp only; omega⟩
