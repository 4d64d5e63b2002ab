section XMX
variable {κ : Kx} {R : Room} {own : String} {cc : ByteArray} {nL : Nat} {w : va_W} {k n pc : Nat} {lv : List (Nat × Value)} {st : List Value}
theorem x_max {idx : Nat} {a b : Int} (h : Cond.methodLink own idx Lib.Math.max.name ∈ wB ∧ Cond.static Lib.Math.max.name ∈ wB ∧ Cond.initialized "java/lang/Math" ∈ wB ∧ Cond.code Lib.Math.max.name Lib.Math.max.code 2 (some .int) ∈ wB) (d : decode cc pc = .ok (.invokestatic idx, 3)) (ha : Rg a) (hb : Rg b) (hfr : 1 ≤ R.frames) (hlo : (st.map fun v => v.category).sum + 13 ≤ R.locals) (hkn : k ≤ R.cells ∧ n ≤ R.slots)
    (kk : X κ R own cc nL w k n (pc + 3) lv (.int (zI (mx a b)) :: st)) : X κ R own cc nL w k n pc lv (.int (zI b) :: .int (zI a) :: st) := by
  intro C H locs ls hl hP hD hS
  refine va_mmax C.hx C.hb (C.hm.trans hl.1.symm) C.ho (C.ht _ h.1) (C.ht _ h.2.1) (C.ht _ h.2.2.1) (C.ht _ h.2.2.2) hfr hlo hkn.1 hkn.2 d ?_
  have e : (if zI a < zI b then zI b else zI a) = zI (mx a b) := by
    unfold mx
    by_cases c : a < b
    · rw [if_pos ((zI_lt ha hb).mpr c), if_pos c]
    · rw [if_neg (fun q => c ((zI_lt ha hb).mp q)), if_neg c]
  rw [e]
  exact kk C H locs ls hl hP hD hS
end XMX
theorem mm_V : Cond.methodLink rc_V 102 Lib.Math.max.name ∈ wB ∧ Cond.static Lib.Math.max.name ∈ wB ∧ Cond.initialized "java/lang/Math" ∈ wB ∧ Cond.code Lib.Math.max.name Lib.Math.max.code 2 (some .int) ∈ wB := ⟨km_V_102, kt_jM_max, kj_jM, by
  rw [show Cond.code Lib.Math.max.name Lib.Math.max.code 2 (some .int) = Cond.code mn_jM_max cd_jM_max 2 (some .int) from by decide +kernel]
  exact kc_jM_max⟩
/-- filled up to i -/
def flF (g : Int → Int) (v i : Int) : Int → Int := fun x => if 0 ≤ x ∧ x < i then v else g x
theorem flF_0 (g : Int → Int) (v : Int) : flF g v 0 = g := by
  funext x
  unfold flF
  rw [if_neg (by omega)]
theorem flF_s (g : Int → Int) (v : Int) {i : Int} (h : 0 ≤ i) : flF g v (i + 1) = ui (flF g v i) i v := by
  funext x
  unfold flF ui
  by_cases e : x = i
  · subst e
    rw [if_pos (by omega), if_pos rfl]
  · rw [if_neg e]
    dsimp only
    by_cases c : 0 ≤ x ∧ x < i
    · rw [if_pos c, if_pos (by omega)]
    · rw [if_neg c, if_neg (by omega)]
theorem stM_self (σ : S0) (q : Nat) : stM σ q (σ.2.2 q) = σ := by
  obtain ⟨I, F, G⟩ := σ
  have h : (fun k => if k = q then G q else G k) = G := by
    funext k
    by_cases e : k = q
    · rw [if_pos e, e]
    · rw [if_neg e]
  show (I, F, (fun k => if k = q then G q else G k)) = (I, F, G)
  rw [h]
theorem stM_at (σ : S0) (q : Nat) (g : Int → Int) : (stM σ q g).2.2 q = g := by
  show (if q = q then g else σ.2.2 q) = g
  rw [if_pos rfl]
theorem stM_ne (σ : S0) {q k : Nat} (g : Int → Int) (h : k ≠ q) : (stM σ q g).2.2 k = σ.2.2 k := by
  show (if k = q then g else σ.2.2 k) = σ.2.2 k
  rw [if_neg h]
theorem stM_stM (σ : S0) (q : Nat) (g g' : Int → Int) : stM (stM σ q g) q g' = stM σ q g' := by
  have h : (fun k => if k = q then g' else (stM σ q g).2.2 k) = fun k => if k = q then g' else σ.2.2 k := by
    funext k
    by_cases e : k = q
    · rw [if_pos e, if_pos e]
    · rw [if_neg e, if_neg e, stM_ne σ g e]
  show (σ.1, σ.2.1, (fun k => if k = q then g' else (stM σ q g).2.2 k)) = _
  rw [h]
  rfl
theorem eqA_flR {Λ : Ly} {σ : S0} {j m : Nat} {v : Int} (hk : Λ.1 j = (0, m)) : eqA Λ (stR σ j (flF (σ.2.1 j) v (m : Int))) (stR σ j (fun _ => v)) := by
  refine ⟨rfl, fun i x h0 h1 => ?_, fun _ _ _ _ => rfl⟩
  by_cases e : i = j
  · subst e
    rw [hk] at h1
    rw [stR_at, stR_at]
    exact if_pos ⟨h0, h1⟩
  · rw [stR_ne _ _ e, stR_ne _ _ e]
theorem eqA_flM {Λ : Ly} {σ : S0} {j m : Nat} {v : Int} (hk : Λ.1 j = (1, m)) : eqA Λ (stM σ j (flF (σ.2.2 j) v (m : Int))) (stM σ j (fun _ => v)) := by
  refine ⟨rfl, fun _ _ _ _ => rfl, fun i x h0 h1 => ?_⟩
  by_cases e : i = j
  · subst e
    rw [hk] at h1
    rw [stM_at, stM_at]
    exact if_pos ⟨h0, h1⟩
  · rw [stM_ne _ _ e, stM_ne _ _ e]
set_option maxRecDepth 100000 in
set_option maxHeartbeats 4000000 in
theorem c_jY_fill_0 {l : Launch} {D : va_G} {ca : Nat → ClassId} {N : Nat} {Λ : Ly} {ad : Nat → Nat} {σ : S0} {j m : Nat} {v : Int} (hj : j < N) (hk : Λ.1 j = (0, m)) (hm : m < 2147483648) : CV l mn_jY_fill_0 kw_jY_fill_0 (rmk 1) D ca [.ref (ad j), .int (zI v)] (wg N Λ ca ad σ) (fun u => stR σ j (fun _ => v) = u) (wg N Λ ca ad) := by
  refine cv_in rc_jY cd_jY_fill_0 4 rfl rfl (by decide) (Nat.le_of_ble_eq_true rfl) (fun κ h1 h2 h3 hret => ?_)
  subst h1; subst h2; subst h3
  refine x_lv [(0, .ref (ad j)), (1, .int (zI v))] rfl ?_
  refine x_iconst dx_jY_fill_0_0 ?_
  refine x_istore_n dx_jY_fill_0_1 rfl (by decide) ?_
  refine x_aload_n dx_jY_fill_0_2 rfl rfl ?_
  refine x_alen (t0 := 0) dx_jY_fill_0_3 hj (cg_0 hk) rfl ?_
  refine x_istore_n dx_jY_fill_0_4 rfl (by decide) ?_
  refine x_w (congrArg (wg N Λ κ.2.2.1.2.2 ad) (show σ = stR σ j (flF (σ.2.1 j) v 0) by rw [flF_0, stR_self])) ?_
  refine x_lv [(0, .ref (ad j)), (1, .int (zI v)), (2, .int (zI 0)), (3, .int (zI (m : Int)))] rfl ?_
  refine x_loop (fun i : Int => X κ (rmk 1) rc_jY cd_jY_fill_0 4 (wg N Λ κ.2.2.1.2.2 ad (stR σ j (flF (σ.2.1 j) v i))) 0 0 5 [(0, .ref (ad j)), (1, .int (zI v)), (2, .int (zI i)), (3, .int (zI (m : Int)))] []) (fun i => 0 ≤ i ∧ i ≤ (m : Int)) (fun i => ((m : Int) - i).toNat) (fun i hi5 ih5 => ?_) 0 ⟨by decide, by omega⟩
  obtain ⟨hi0, hi1⟩ := hi5
  refine x_iload_n dx_jY_fill_0_5 rfl rfl ?_
  refine x_iload_n dx_jY_fill_0_6 rfl rfl ?_
  refine x_icmp_ge (tgt := 20) dx_jY_fill_0_7 (by decide) ⟨by omega, by omega⟩ ⟨by omega, by omega⟩ (fun h7 => ?_) (fun h7 => ?_)
  ·
    have e : i = (m : Int) := by omega
    subst e
    refine x_ext (eqA_flR hk) ?_
    exact hret _ _ _ rfl dx_jY_fill_0_20
  ·
    refine x_aload_n dx_jY_fill_0_10 rfl rfl ?_
    refine x_iload_n dx_jY_fill_0_11 rfl rfl ?_
    refine x_iload_n dx_jY_fill_0_12 rfl rfl ?_
    refine x_iast dx_jY_fill_0_13 hj hk hi0 (by omega) hm ?_
    refine x_iinc dx_jY_fill_0_14 rfl (by decide) ?_
    refine x_goto (tgt := 5) dx_jY_fill_0_17 (by decide) ?_
    refine x_w (congrArg (wg N Λ κ.2.2.1.2.2 ad) (show _ = stR σ j (flF (σ.2.1 j) v (i + 1)) by rw [flF_s _ _ hi0]; unfold stF; rw [stR_at, stR_stR])) ?_
    refine x_lv [(0, .ref (ad j)), (1, .int (zI v)), (2, .int (zI (i + 1))), (3, .int (zI (m : Int)))] rfl ?_
    exact ih5 (i + 1) ⟨by omega, by omega⟩ (by omega)
set_option maxRecDepth 100000 in
set_option maxHeartbeats 4000000 in
theorem c_jY_fill_1 {l : Launch} {D : va_G} {ca : Nat → ClassId} {N : Nat} {Λ : Ly} {ad : Nat → Nat} {σ : S0} {j m : Nat} {v : Int} (hj : j < N) (hk : Λ.1 j = (1, m)) (hm : m < 2147483648) : CV l mn_jY_fill_1 kw_jY_fill_1 (rmk 1) D ca [.ref (ad j), .long (zL v)] (wg N Λ ca ad σ) (fun u => stM σ j (fun _ => v) = u) (wg N Λ ca ad) := by
  refine cv_in rc_jY cd_jY_fill_1 5 rfl rfl (by decide) (Nat.le_of_ble_eq_true rfl) (fun κ h1 h2 h3 hret => ?_)
  subst h1; subst h2; subst h3
  refine x_lv [(0, .ref (ad j)), (1, .long (zL v))] rfl ?_
  refine x_iconst dx_jY_fill_1_0 ?_
  refine x_istore_n dx_jY_fill_1_1 rfl (by decide) ?_
  refine x_aload_n dx_jY_fill_1_2 rfl rfl ?_
  refine x_alen (t0 := 1) dx_jY_fill_1_3 hj (cg_1 hk) rfl ?_
  refine x_istore dx_jY_fill_1_4 (by decide) ?_
  refine x_w (congrArg (wg N Λ κ.2.2.1.2.2 ad) (show σ = stM σ j (flF (σ.2.2 j) v 0) by rw [flF_0, stM_self])) ?_
  refine x_lv [(0, .ref (ad j)), (1, .long (zL v)), (3, .int (zI 0)), (4, .int (zI (m : Int)))] rfl ?_
  refine x_loop (fun i : Int => X κ (rmk 1) rc_jY cd_jY_fill_1 5 (wg N Λ κ.2.2.1.2.2 ad (stM σ j (flF (σ.2.2 j) v i))) 0 0 6 [(0, .ref (ad j)), (1, .long (zL v)), (3, .int (zI i)), (4, .int (zI (m : Int)))] []) (fun i => 0 ≤ i ∧ i ≤ (m : Int)) (fun i => ((m : Int) - i).toNat) (fun i hi6 ih6 => ?_) 0 ⟨by decide, by omega⟩
  obtain ⟨hi0, hi1⟩ := hi6
  refine x_iload_n dx_jY_fill_1_6 rfl rfl ?_
  refine x_iload dx_jY_fill_1_7 rfl ?_
  refine x_icmp_ge (tgt := 22) dx_jY_fill_1_9 (by decide) ⟨by omega, by omega⟩ ⟨by omega, by omega⟩ (fun h9 => ?_) (fun h9 => ?_)
  ·
    have e : i = (m : Int) := by omega
    subst e
    refine x_ext (eqA_flM hk) ?_
    exact hret _ _ _ rfl dx_jY_fill_1_22
  ·
    refine x_aload_n dx_jY_fill_1_12 rfl rfl ?_
    refine x_iload_n dx_jY_fill_1_13 rfl rfl ?_
    refine x_lload_n dx_jY_fill_1_14 rfl rfl ?_
    refine x_last dx_jY_fill_1_15 hj hk hi0 (by omega) hm ?_
    refine x_iinc dx_jY_fill_1_16 rfl (by decide) ?_
    refine x_goto (tgt := 6) dx_jY_fill_1_19 (by decide) ?_
    refine x_w (congrArg (wg N Λ κ.2.2.1.2.2 ad) (show _ = stM σ j (flF (σ.2.2 j) v (i + 1)) by rw [flF_s _ _ hi0]; unfold stL; rw [stM_at, stM_stM])) ?_
    refine x_lv [(0, .ref (ad j)), (1, .long (zL v)), (3, .int (zI (i + 1))), (4, .int (zI (m : Int)))] rfl ?_
    exact ih6 (i + 1) ⟨by omega, by omega⟩ (by omega)
