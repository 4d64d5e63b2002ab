/-! states of joining -/
def mvs (σ : S0) (r : Nat) (p q : Int) : S0 := stR σ (21 + r) (mvF (σ.2.1 (21 + r)) p q (σ.1 0))
def jc5 (σ : S0) (r : Nat) (p q : Int) : S0 :=
  apn (apn (mvs σ r q p) ((mvs σ r q p).2.1 6 p) ((mvs σ r q p).2.1 6 q)) ((apn (mvs σ r q p) ((mvs σ r q p).2.1 6 p) ((mvs σ r q p).2.1 6 q)).2.1 7 p) ((apn (mvs σ r q p) ((mvs σ r q p).2.1 6 p) ((mvs σ r q p).2.1 6 q)).2.1 7 q)
theorem mvF_rg {row : Int → Int} {p q i : Int} (h : ∀ j, Rg (row j)) (hq : Rg q) (j : Int) : Rg (mvF row p q i j) := by
  unfold mvF
  split
  · exact hq
  · exact h j
theorem ok_mvs {σ : S0} {r : Nat} {p q : Int} (h : Ok σ) (hq : Rg q) : Ok (mvs σ r p q) := ok_stR h (mvF_rg (h.2.1 _) hq)
theorem ok_apn {σ : S0} {s t : Int} (h : Ok σ) (h0 : 0 ≤ σ.1 1) (hs : Rg s) (ht : Rg t) : Ok (apn σ s t) := by
  unfold apn
  split
  · rename_i c
    exact ok_stI (ok_stF (ok_stF h hs) ht) ⟨by omega, by omega⟩
  · exact h
theorem apn_F (σ : S0) (s t : Int) {j : Nat} (h9 : j ≠ 9) (h10 : j ≠ 10) : (apn σ s t).2.1 j = σ.2.1 j := by
  unfold apn
  split
  · show (stF (stF σ 9 (σ.1 1) s) 10 (σ.1 1) t).2.1 j = _
    unfold stF
    rw [stR_ne _ _ h10, stR_ne _ _ h9]
  · rfl
theorem apn_I (σ : S0) (s t : Int) {j : Nat} (h : j ≠ 1) : (apn σ s t).1 j = σ.1 j := by
  unfold apn
  split
  · exact uq_ne _ _ h
  · rfl
theorem apn_1 (σ : S0) (s t : Int) (h : 0 ≤ σ.1 1) : 0 ≤ (apn σ s t).1 1 := by
  unfold apn
  split
  · show 0 ≤ uq σ.1 1 (σ.1 1 + 1) 1
    rw [uq_at]
    omega
  · exact h
/-- the first n places of f, the others of g -/
def cpF (f g : Int → Int) (n : Int) : Int → Int := fun j => if 0 ≤ j ∧ j < n then f j else g j
theorem cpy_zI {f g : Int → Int} (n : Nat) : va_cpy (fun x : Nat => zI (f (x : Int))) (fun x : Nat => zI (g (x : Int))) 0 0 n = fun x : Nat => zI (cpF f g (n : Int) (x : Int)) := by
  funext x
  unfold cpF
  by_cases h : x < n
  · rw [pk_cpy_in (Nat.zero_le _) (by omega), if_pos (by omega)]
    simp
  · rw [pk_cpy_out (by omega), if_neg (by omega)]
section XCP
variable {κ : Kx} {R : Room} {own : String} {cc : ByteArray} {nL : Nat} {k n pc : Nat} {lv : List (Nat × Value)} {st : List Value} {N : Nat} {Λ : Ly} {ad : Nat → Nat} {σ : S0}
theorem x_copy {idx j0 j1 m0 m1 : Nat} {c : Int} (h : Cond.methodLink own idx arraycopyName ∈ wB ∧ Cond.native arraycopyName ∈ wB ∧ Cond.static arraycopyName ∈ wB ∧ Cond.initialized "java/lang/System" ∈ wB) (d : decode cc pc = .ok (.invokestatic idx, 3)) (hj0 : j0 < N) (hj1 : j1 < N) (hk0 : Λ.1 j0 = (0, m0)) (hk1 : Λ.1 j1 = (0, m1)) (hc0 : 0 ≤ c) (hc1 : c ≤ (m0 : Int)) (hc2 : c ≤ (m1 : Int)) (hm : m0 < 2147483648)
    (hfr : 1 ≤ R.frames) (hlo : (st.map fun v => v.category).sum + (nativeFrameWords "java/lang/System" "arraycopy" 5 + 11) ≤ R.locals)
    (kk : X κ R own cc nL (wg N Λ κ.2.2.1.2.2 ad (stR σ j1 (cpF (σ.2.1 j0) (σ.2.1 j1) c))) k n (pc + 3) lv st) : X κ R own cc nL (wg N Λ κ.2.2.1.2.2 ad σ) k n pc lv (.int (zI c) :: .int (zI 0) :: .ref (ad j1) :: .int (zI 0) :: .ref (ad j0) :: st) := by
  intro C H locs ls hl hP hD hS
  have he0 : (wg N Λ κ.2.2.1.2.2 ad σ)[j0]? = some (ad j0, .inl (κ.2.2.1.2.2 0, m0, .inl (fun x => zI (σ.2.1 j0 (x : Int))))) := by rw [wg, wl_get hj0, cg_0 hk0]; rfl
  have he1 : (wg N Λ κ.2.2.1.2.2 ad σ)[j1]? = some (ad j1, .inl (κ.2.2.1.2.2 0, m1, .inl (fun x => zI (σ.2.1 j1 (x : Int))))) := by rw [wg, wl_get hj1, cg_0 hk1]; rfl
  have e0 : (zI 0).toNatClampNeg = 0 := by decide
  have ec : (zI c).toNatClampNeg = c.toNat := zI_cl ⟨by omega, by omega⟩
  have hw : (wg N Λ κ.2.2.1.2.2 ad σ).set j1 (ad j1, .inl (κ.2.2.1.2.2 0, m1, .inl (va_cpy (fun x => zI (σ.2.1 j0 (x : Int))) (fun x => zI (σ.2.1 j1 (x : Int))) (zI 0).toNatClampNeg (zI 0).toNatClampNeg (zI c).toNatClampNeg))) = wg N Λ κ.2.2.1.2.2 ad (stR σ j1 (cpF (σ.2.1 j0) (σ.2.1 j1) c)) := by
    rw [e0, ec, cpy_zI, Int.toNat_of_nonneg hc0, wg, wl_set]
    exact congrArg (wl N ad) (cg_stR hk1)
  have hneg : ¬ zI c < 0 := by
    rw [← zI_0, zI_lt ⟨by omega, by omega⟩ Rg_0]
    omega
  exact va_copyi C.hx C.hb (C.hm.trans hl.1.symm) C.ho (C.ht _ h.1) (C.ht _ h.2.1) (C.ht _ h.2.2.1) (C.ht _ h.2.2.2) C.hK hP hD hS j0 j1 0 0 he0 he1 rfl rfl rfl (by decide) (by decide) hneg (by rw [e0, ec]; omega) (by rw [e0, ec]; omega) (fun _ _ => rfl) hfr hlo d (fun H1 locs1 hP1 hD1 hS1 => kk C H1 locs1 ls hl (hw ▸ hP1) (hw ▸ hD1) hS1)
end XCP
