set_option maxRecDepth 100000 in
set_option maxHeartbeats 4000000 in
/-- has -/
theorem c_N_has {l : Launch} {D : va_G} {ca : Nat → ClassId} {ad : Nat → Nat} {σ : S0} {a : Int} (hs : Ok σ) (ha : Rg a) : CI l mn_N_has kw_N_has (rmk 1) D ca [.ref (ad 1), .int (zI a)] (wg 82 LT ca ad σ) (fun z u => bz (0 ≤ a ∧ a < σ.1 0) = z ∧ σ = u) (wg 82 LT ca ad) := by
  refine ci_in rc_N cd_N_has 2 .boolean rfl rfl (by decide) (Nat.le_of_ble_eq_true rfl) (fun κ h1 h2 h3 hret => ?_)
  subst h1; subst h2; subst h3
  refine x_lv [(0, .ref (ad 1)), (1, .int (zI a))] rfl ?_
  refine x_iload_n dx_N_has_0 rfl rfl ?_
  refine x_if_lt (tgt := 16) dx_N_has_1 (by decide) ha (fun h1 => ?_) (fun h1 => ?_)
  ·
    refine x_iconst dx_N_has_16 ?_
    exact hret _ _ _ _ ⟨bz_f (by omega), rfl⟩ rfl dx_N_has_17
  ·
    refine x_iload_n dx_N_has_4 rfl rfl ?_
    refine x_aload_n dx_N_has_5 rfl rfl ?_
    refine x_get fa_N_21 dx_N_has_6 (by decide) rfl rfl ?_
    refine x_icmp_ge (tgt := 16) dx_N_has_9 (by decide) ha (hs.1 _) (fun h9 => ?_) (fun h9 => ?_)
    ·
      refine x_iconst dx_N_has_16 ?_
      exact hret _ _ _ _ ⟨bz_f (by omega), rfl⟩ rfl dx_N_has_17
    ·
      refine x_iconst dx_N_has_12 ?_
      refine x_goto (tgt := 17) dx_N_has_13 (by decide) ?_
      exact hret _ _ _ _ ⟨bz_t (by omega), rfl⟩ rfl dx_N_has_17
set_option maxRecDepth 100000 in
set_option maxHeartbeats 4000000 in
theorem c_N_areFull {l : Launch} {D : va_G} {ca : Nat → ClassId} {ad : Nat → Nat} {σ : S0}  (hs : Ok σ) : CI l mn_N_areFull kw_N_areFull (rmk 1) D ca [.ref (ad 1)] (wg 82 LT ca ad σ) (fun z u => bz (40 ≤ σ.1 0) = z ∧ σ = u) (wg 82 LT ca ad) := by
  refine ci_in rc_N cd_N_areFull 1 .boolean rfl rfl (by decide) (Nat.le_of_ble_eq_true rfl) (fun κ h1 h2 h3 hret => ?_)
  subst h1; subst h2; subst h3
  refine x_lv [(0, .ref (ad 1))] rfl ?_
  refine x_aload_n dx_N_areFull_0 rfl rfl ?_
  refine x_get fa_N_21 dx_N_areFull_1 (by decide) rfl rfl ?_
  refine x_bipush dx_N_areFull_4 (by decide) ?_
  refine x_icmp_lt (tgt := 13) dx_N_areFull_6 (by decide) (by first | exact hs.2.1 _ _ | exact hs.1 _ | exact ⟨by omega, by omega⟩) (by first | exact hs.2.1 _ _ | exact hs.1 _ | exact ⟨by omega, by omega⟩) (fun h6 => ?_) (fun h6 => ?_)
  ·
    refine x_iconst dx_N_areFull_13 ?_
    exact hret _ _ _ _ ⟨bz_f (by omega), rfl⟩ rfl dx_N_areFull_14
  ·
    refine x_iconst dx_N_areFull_9 ?_
    refine x_goto (tgt := 14) dx_N_areFull_10 (by decide) ?_
    exact hret _ _ _ _ ⟨bz_t (by omega), rfl⟩ rfl dx_N_areFull_14
set_option maxRecDepth 100000 in
set_option maxHeartbeats 4000000 in
theorem c_N_isVariable {l : Launch} {D : va_G} {ca : Nat → ClassId} {ad : Nat → Nat} {σ : S0} {a : Int} (hs : Ok σ) (h0 : 0 ≤ a) (h1 : a < 40) : CI l mn_N_isVariable kw_N_isVariable (rmk 1) D ca [.ref (ad 1), .int (zI a)] (wg 82 LT ca ad σ) (fun z u => bz (σ.2.1 5 a = -1) = z ∧ σ = u) (wg 82 LT ca ad) := by
  refine ci_in rc_N cd_N_isVariable 2 .boolean rfl rfl (by decide) (Nat.le_of_ble_eq_true rfl) (fun κ h1 h2 h3 hret => ?_)
  subst h1; subst h2; subst h3
  refine x_lv [(0, .ref (ad 1)), (1, .int (zI a))] rfl ?_
  refine x_aload_n dx_N_isVariable_0 rfl rfl ?_
  refine x_get fa_N_9 dx_N_isVariable_1 (by decide) rfl rfl ?_
  refine x_iload_n dx_N_isVariable_4 rfl rfl ?_
  refine x_iald dx_N_isVariable_5 (by decide) rfl (by omega) (by omega) (by decide) ?_
  refine x_iconst dx_N_isVariable_6 ?_
  refine x_icmp_ne (tgt := 14) dx_N_isVariable_7 (by decide) (by first | exact hs.2.1 _ _ | exact hs.1 _ | exact ⟨by omega, by omega⟩) (by first | exact hs.2.1 _ _ | exact hs.1 _ | exact ⟨by omega, by omega⟩) (fun h7 => ?_) (fun h7 => ?_)
  ·
    refine x_iconst dx_N_isVariable_14 ?_
    exact hret _ _ _ _ ⟨bz_f (by omega), rfl⟩ rfl dx_N_isVariable_15
  ·
    refine x_iconst dx_N_isVariable_10 ?_
    refine x_goto (tgt := 15) dx_N_isVariable_11 (by decide) ?_
    exact hret _ _ _ _ ⟨bz_t (by omega), rfl⟩ rfl dx_N_isVariable_15
set_option maxRecDepth 100000 in
set_option maxHeartbeats 4000000 in
theorem c_N_add {l : Launch} {D : va_G} {ca : Nat → ClassId} {ad : Nat → Nat} {σ : S0} {k a b : Int} (h0 : 0 ≤ σ.1 0) (h1 : σ.1 0 < 40) : CI l mn_N_add kw_N_add (rmk 1) D ca [.ref (ad 1), .int (zI k), .int (zI a), .int (zI b)] (wg 82 LT ca ad σ) (fun z u => σ.1 0 = z ∧ stI (stF (stF (stF σ 5 (σ.1 0) k) 6 (σ.1 0) a) 7 (σ.1 0) b) 0 (σ.1 0 + 1) = u) (wg 82 LT ca ad) := by
  refine ci_in rc_N cd_N_add 5 .int rfl rfl (by decide) (Nat.le_of_ble_eq_true rfl) (fun κ h1 h2 h3 hret => ?_)
  subst h1; subst h2; subst h3
  refine x_lv [(0, .ref (ad 1)), (1, .int (zI k)), (2, .int (zI a)), (3, .int (zI b))] rfl ?_
  refine x_aload_n dx_N_add_0 rfl rfl ?_
  refine x_get fa_N_21 dx_N_add_1 (by decide) rfl rfl ?_
  refine x_istore dx_N_add_4 (by decide) ?_
  refine x_aload_n dx_N_add_6 rfl rfl ?_
  refine x_get fa_N_9 dx_N_add_7 (by decide) rfl rfl ?_
  refine x_iload dx_N_add_10 rfl ?_
  refine x_iload_n dx_N_add_12 rfl rfl ?_
  refine x_iast dx_N_add_13 (by decide) rfl (by omega) (by omega) (by decide) ?_
  refine x_aload_n dx_N_add_14 rfl rfl ?_
  refine x_get fa_N_15 dx_N_add_15 (by decide) rfl rfl ?_
  refine x_iload dx_N_add_18 rfl ?_
  refine x_iload_n dx_N_add_20 rfl rfl ?_
  refine x_iast dx_N_add_21 (by decide) rfl (by omega) (by omega) (by decide) ?_
  refine x_aload_n dx_N_add_22 rfl rfl ?_
  refine x_get fa_N_18 dx_N_add_23 (by decide) rfl rfl ?_
  refine x_iload dx_N_add_26 rfl ?_
  refine x_iload_n dx_N_add_28 rfl rfl ?_
  refine x_iast dx_N_add_29 (by decide) rfl (by omega) (by omega) (by decide) ?_
  refine x_aload_n dx_N_add_30 rfl rfl ?_
  refine x_dup dx_N_add_31 rfl ?_
  refine x_get fa_N_21 dx_N_add_32 (by decide) rfl rfl ?_
  refine x_iconst dx_N_add_35 ?_
  refine x_iadd dx_N_add_36 ?_
  refine x_put fp_N_21 io_made dx_N_add_37 (by decide) rfl rfl ?_
  refine x_iload dx_N_add_40 rfl ?_
  exact hret _ _ _ _ ⟨rfl, rfl⟩ rfl dx_N_add_42
set_option maxRecDepth 100000 in
set_option maxHeartbeats 4000000 in
theorem c_E_areFull {l : Launch} {D : va_G} {ca : Nat → ClassId} {ad : Nat → Nat} {σ : S0}  (hs : Ok σ) : CI l mn_E_areFull kw_E_areFull (rmk 1) D ca [.ref (ad 2)] (wg 82 LT ca ad σ) (fun z u => bz (20 ≤ σ.1 2) = z ∧ σ = u) (wg 82 LT ca ad) := by
  refine ci_in rc_E cd_E_areFull 1 .boolean rfl rfl (by decide) (Nat.le_of_ble_eq_true rfl) (fun κ h1 h2 h3 hret => ?_)
  subst h1; subst h2; subst h3
  refine x_lv [(0, .ref (ad 2))] rfl ?_
  refine x_aload_n dx_E_areFull_0 rfl rfl ?_
  refine x_get fa_E_31 dx_E_areFull_1 (by decide) rfl rfl ?_
  refine x_bipush dx_E_areFull_4 (by decide) ?_
  refine x_icmp_lt (tgt := 13) dx_E_areFull_6 (by decide) (by first | exact hs.2.1 _ _ | exact hs.1 _ | exact ⟨by omega, by omega⟩) (by first | exact hs.2.1 _ _ | exact hs.1 _ | exact ⟨by omega, by omega⟩) (fun h6 => ?_) (fun h6 => ?_)
  ·
    refine x_iconst dx_E_areFull_13 ?_
    exact hret _ _ _ _ ⟨bz_f (by omega), rfl⟩ rfl dx_E_areFull_14
  ·
    refine x_iconst dx_E_areFull_9 ?_
    refine x_goto (tgt := 14) dx_E_areFull_10 (by decide) ?_
    exact hret _ _ _ _ ⟨bz_t (by omega), rfl⟩ rfl dx_E_areFull_14
set_option maxRecDepth 100000 in
set_option maxHeartbeats 4000000 in
theorem c_E_keptRow {l : Launch} {D : va_G} {ca : Nat → ClassId} {ad : Nat → Nat} {σ : S0}  (h0 : 0 ≤ σ.1 2) (h1 : σ.1 2 < 21) : CR l mn_E_keptRow kw_E_keptRow (rmk 1) D ca [.ref (ad 2)] (wg 82 LT ca ad σ) (fun a u => ad (21 + (σ.1 2).toNat) = a ∧ σ = u) (wg 82 LT ca ad) := by
  refine cr_in rc_E cd_E_keptRow 1 (.array .int) (Or.inr ⟨_, rfl⟩) rfl rfl (by decide) (Nat.le_of_ble_eq_true rfl) (fun κ h1 h2 h3 hret => ?_)
  subst h1; subst h2; subst h3
  refine x_lv [(0, .ref (ad 2))] rfl ?_
  refine x_aload_n dx_E_keptRow_0 rfl rfl ?_
  refine x_get fa_E_17 dx_E_keptRow_1 (by decide) rfl rfl ?_
  refine x_aload_n dx_E_keptRow_4 rfl rfl ?_
  refine x_get fa_E_31 dx_E_keptRow_5 (by decide) rfl rfl ?_
  refine x_aald (t0 := 3) dx_E_keptRow_8 (by decide) rfl rfl rfl (by omega) (by omega) (by decide) ?_
  exact hret _ _ _ _ ⟨rfl, rfl⟩ dx_E_keptRow_9
set_option maxRecDepth 100000 in
set_option maxHeartbeats 4000000 in
theorem c_E_triedRow {l : Launch} {D : va_G} {ca : Nat → ClassId} {ad : Nat → Nat} {σ : S0}  (h0 : 0 ≤ σ.1 2) (h1 : σ.1 2 < 20) : CR l mn_E_triedRow kw_E_triedRow (rmk 1) D ca [.ref (ad 2)] (wg 82 LT ca ad σ) (fun a u => ad (21 + (σ.1 2 + 1).toNat) = a ∧ σ = u) (wg 82 LT ca ad) := by
  refine cr_in rc_E cd_E_triedRow 1 (.array .int) (Or.inr ⟨_, rfl⟩) rfl rfl (by decide) (Nat.le_of_ble_eq_true rfl) (fun κ h1 h2 h3 hret => ?_)
  subst h1; subst h2; subst h3
  refine x_lv [(0, .ref (ad 2))] rfl ?_
  refine x_aload_n dx_E_triedRow_0 rfl rfl ?_
  refine x_get fa_E_17 dx_E_triedRow_1 (by decide) rfl rfl ?_
  refine x_aload_n dx_E_triedRow_4 rfl rfl ?_
  refine x_get fa_E_31 dx_E_triedRow_5 (by decide) rfl rfl ?_
  refine x_iconst dx_E_triedRow_8 ?_
  refine x_iadd dx_E_triedRow_9 ?_
  refine x_aald (t0 := 3) dx_E_triedRow_10 (by decide) rfl rfl rfl (by omega) (by omega) (by decide) ?_
  exact hret _ _ _ _ ⟨rfl, rfl⟩ dx_E_triedRow_11
set_option maxRecDepth 100000 in
set_option maxHeartbeats 4000000 in
theorem c_V_valueUnder {l : Launch} {D : va_G} {ca : Nat → ClassId} {ad : Nat → Nat} {σ : S0} {r : Nat} {a : Int} (hr : r < 21) (ha : Rg a) (h : a = -1 ∨ (0 ≤ a ∧ a < 40 ∧ 0 ≤ σ.2.1 (21 + r) a ∧ σ.2.1 (21 + r) a < 40)) : CI l mn_V_valueUnder kw_V_valueUnder (rmk 1) D ca [.ref (ad 3), .ref (ad (21 + r)), .int (zI a)] (wg 82 LT ca ad σ) (fun z u => vuF (σ.2.1 11) (σ.2.1 (21 + r)) a = z ∧ σ = u) (wg 82 LT ca ad) := by
  refine ci_in rc_V cd_V_valueUnder 3 .int rfl rfl (by decide) (Nat.le_of_ble_eq_true rfl) (fun κ h1 h2 h3 hret => ?_)
  subst h1; subst h2; subst h3
  refine x_lv [(0, .ref (ad 3)), (1, .ref (ad (21 + r))), (2, .int (zI a))] rfl ?_
  refine x_iload_n dx_V_valueUnder_0 rfl rfl ?_
  refine x_iconst dx_V_valueUnder_1 ?_
  refine x_icmp_ne (tgt := 9) dx_V_valueUnder_2 (by decide) ha ⟨by decide, by decide⟩ (fun h2 => ?_) (fun h2 => ?_)
  ·
    refine x_aload_n dx_V_valueUnder_9 rfl rfl ?_
    refine x_get fa_V_15 dx_V_valueUnder_10 (by decide) rfl rfl ?_
    refine x_aload_n dx_V_valueUnder_13 rfl rfl ?_
    refine x_iload_n dx_V_valueUnder_14 rfl rfl ?_
    refine x_iald dx_V_valueUnder_15 (by omega) (kT_row hr) (by omega) (by omega) (by decide) ?_
    refine x_iald dx_V_valueUnder_16 (by decide) rfl (by omega) (by omega) (by decide) ?_
    exact hret _ _ _ _ ⟨if_neg h2, rfl⟩ rfl dx_V_valueUnder_17
  ·
    refine x_iconst dx_V_valueUnder_5 ?_
    refine x_goto (tgt := 17) dx_V_valueUnder_6 (by decide) ?_
    exact hret _ _ _ _ ⟨if_pos h2, rfl⟩ rfl dx_V_valueUnder_17
set_option maxRecDepth 100000 in
set_option maxHeartbeats 4000000 in
theorem c_V_sizeOrNone {l : Launch} {D : va_G} {ca : Nat → ClassId} {ad : Nat → Nat} {σ : S0} {a : Int} (ha : Rg a) (h : a = -1 ∨ (0 ≤ a ∧ a < 40)) : CL l mn_V_sizeOrNone kw_V_sizeOrNone (rmk 1) D ca [.ref (ad 3), .int (zI a)] (wg 82 LT ca ad σ) (fun z u => soF (σ.2.2 17) a = z ∧ σ = u) (wg 82 LT ca ad) := by
  refine cl_in rc_V cd_V_sizeOrNone 2 rfl rfl (by decide) (Nat.le_of_ble_eq_true rfl) (fun κ h1 h2 h3 hret => ?_)
  subst h1; subst h2; subst h3
  refine x_lv [(0, .ref (ad 3)), (1, .int (zI a))] rfl ?_
  refine x_iload_n dx_V_sizeOrNone_0 rfl rfl ?_
  refine x_iconst dx_V_sizeOrNone_1 ?_
  refine x_icmp_ne (tgt := 9) dx_V_sizeOrNone_2 (by decide) ha ⟨by decide, by decide⟩ (fun h2 => ?_) (fun h2 => ?_)
  ·
    refine x_aload_n dx_V_sizeOrNone_9 rfl rfl ?_
    refine x_get fa_V_34 dx_V_sizeOrNone_10 (by decide) rfl rfl ?_
    refine x_iload_n dx_V_sizeOrNone_13 rfl rfl ?_
    refine x_lald dx_V_sizeOrNone_14 (by decide) rfl (by omega) (by omega) (by decide) ?_
    exact hret _ _ _ _ ⟨if_neg h2, rfl⟩ dx_V_sizeOrNone_15
  ·
    refine x_lconst (z := 0) dx_V_sizeOrNone_5 (by decide) ?_
    refine x_goto (tgt := 15) dx_V_sizeOrNone_6 (by decide) ?_
    exact hret _ _ _ _ ⟨if_pos h2, rfl⟩ dx_V_sizeOrNone_15
set_option maxRecDepth 100000 in
set_option maxHeartbeats 4000000 in
theorem c_V_depthOrNone {l : Launch} {D : va_G} {ca : Nat → ClassId} {ad : Nat → Nat} {σ : S0} {a : Int} (ha : Rg a) (h : a = -1 ∨ (0 ≤ a ∧ a < 40)) : CI l mn_V_depthOrNone kw_V_depthOrNone (rmk 1) D ca [.ref (ad 3), .int (zI a)] (wg 82 LT ca ad σ) (fun z u => soF (σ.2.1 15) a = z ∧ σ = u) (wg 82 LT ca ad) := by
  refine ci_in rc_V cd_V_depthOrNone 2 .int rfl rfl (by decide) (Nat.le_of_ble_eq_true rfl) (fun κ h1 h2 h3 hret => ?_)
  subst h1; subst h2; subst h3
  refine x_lv [(0, .ref (ad 3)), (1, .int (zI a))] rfl ?_
  refine x_iload_n dx_V_depthOrNone_0 rfl rfl ?_
  refine x_iconst dx_V_depthOrNone_1 ?_
  refine x_icmp_ne (tgt := 9) dx_V_depthOrNone_2 (by decide) ha ⟨by decide, by decide⟩ (fun h2 => ?_) (fun h2 => ?_)
  ·
    refine x_aload_n dx_V_depthOrNone_9 rfl rfl ?_
    refine x_get fa_V_28 dx_V_depthOrNone_10 (by decide) rfl rfl ?_
    refine x_iload_n dx_V_depthOrNone_13 rfl rfl ?_
    refine x_iald dx_V_depthOrNone_14 (by decide) rfl (by omega) (by omega) (by decide) ?_
    exact hret _ _ _ _ ⟨if_neg h2, rfl⟩ rfl dx_V_depthOrNone_15
  ·
    refine x_iconst dx_V_depthOrNone_5 ?_
    refine x_goto (tgt := 15) dx_V_depthOrNone_6 (by decide) ?_
    exact hret _ _ _ _ ⟨if_pos h2, rfl⟩ rfl dx_V_depthOrNone_15
set_option maxRecDepth 100000 in
set_option maxHeartbeats 4000000 in
theorem c_V_holdsOrNone {l : Launch} {D : va_G} {ca : Nat → ClassId} {ad : Nat → Nat} {σ : S0} {a : Int} (ha : Rg a) (h : a = -1 ∨ (0 ≤ a ∧ a < 40)) : CL l mn_V_holdsOrNone kw_V_holdsOrNone (rmk 1) D ca [.ref (ad 3), .int (zI a)] (wg 82 LT ca ad σ) (fun z u => soF (σ.2.2 18) a = z ∧ σ = u) (wg 82 LT ca ad) := by
  refine cl_in rc_V cd_V_holdsOrNone 2 rfl rfl (by decide) (Nat.le_of_ble_eq_true rfl) (fun κ h1 h2 h3 hret => ?_)
  subst h1; subst h2; subst h3
  refine x_lv [(0, .ref (ad 3)), (1, .int (zI a))] rfl ?_
  refine x_iload_n dx_V_holdsOrNone_0 rfl rfl ?_
  refine x_iconst dx_V_holdsOrNone_1 ?_
  refine x_icmp_ne (tgt := 9) dx_V_holdsOrNone_2 (by decide) ha ⟨by decide, by decide⟩ (fun h2 => ?_) (fun h2 => ?_)
  ·
    refine x_aload_n dx_V_holdsOrNone_9 rfl rfl ?_
    refine x_get fa_V_38 dx_V_holdsOrNone_10 (by decide) rfl rfl ?_
    refine x_iload_n dx_V_holdsOrNone_13 rfl rfl ?_
    refine x_lald dx_V_holdsOrNone_14 (by decide) rfl (by omega) (by omega) (by decide) ?_
    exact hret _ _ _ _ ⟨if_neg h2, rfl⟩ dx_V_holdsOrNone_15
  ·
    refine x_lconst (z := 0) dx_V_holdsOrNone_5 (by decide) ?_
    refine x_goto (tgt := 15) dx_V_holdsOrNone_6 (by decide) ?_
    exact hret _ _ _ _ ⟨if_pos h2, rfl⟩ dx_V_holdsOrNone_15
theorem vu_rg {σ : S0} {r : Nat} {a : Int} (hs : Ok σ) : Rg (vuF (σ.2.1 11) (σ.2.1 (21 + r)) a) := by
  unfold vuF
  split
  · exact ⟨by decide, by decide⟩
  · exact hs.2.1 _ _
set_option maxRecDepth 100000 in
set_option maxHeartbeats 4000000 in
theorem c_V_hasSettledArguments {l : Launch} {D : va_G} {ca : Nat → ClassId} {ad : Nat → Nat} {σ : S0} {r : Nat} {x : Int} (hs : Ok σ) (hr : r < 21) (h0 : 0 ≤ x) (h1 : x < 40) (ha : σ.2.1 6 x = -1 ∨ (0 ≤ σ.2.1 6 x ∧ σ.2.1 6 x < 40 ∧ 0 ≤ σ.2.1 (21 + r) (σ.2.1 6 x) ∧ σ.2.1 (21 + r) (σ.2.1 6 x) < 40)) (hb : σ.2.1 7 x = -1 ∨ (0 ≤ σ.2.1 7 x ∧ σ.2.1 7 x < 40 ∧ 0 ≤ σ.2.1 (21 + r) (σ.2.1 7 x) ∧ σ.2.1 (21 + r) (σ.2.1 7 x) < 40)) : CI l mn_V_hasSettledArguments kw_V_hasSettledArguments (rmk 2) D ca [.ref (ad 3), .ref (ad (21 + r)), .int (zI x)] (wg 82 LT ca ad σ) (fun z u => bz ((σ.2.1 6 x = -1 ∨ vuF (σ.2.1 11) (σ.2.1 (21 + r)) (σ.2.1 6 x) ≠ -1) ∧ (σ.2.1 7 x = -1 ∨ vuF (σ.2.1 11) (σ.2.1 (21 + r)) (σ.2.1 7 x) ≠ -1)) = z ∧ σ = u) (wg 82 LT ca ad) := by
  refine ci_in rc_V cd_V_hasSettledArguments 5 .boolean rfl rfl (by decide) (Nat.le_of_ble_eq_true rfl) (fun κ h1 h2 h3 hret => ?_)
  subst h1; subst h2; subst h3
  refine x_lv [(0, .ref (ad 3)), (1, .ref (ad (21 + r))), (2, .int (zI x))] rfl ?_
  refine x_aload_n dx_V_hasSettledArguments_0 rfl rfl ?_
  refine x_get fa_V_9 dx_V_hasSettledArguments_1 (by decide) rfl rfl ?_
  refine x_get fa_V_84 dx_V_hasSettledArguments_4 (by decide) rfl rfl ?_
  refine x_iload_n dx_V_hasSettledArguments_7 rfl rfl ?_
  refine x_iald dx_V_hasSettledArguments_8 (by decide) rfl (by omega) (by omega) (by decide) ?_
  refine x_istore_n dx_V_hasSettledArguments_9 rfl (by decide) ?_
  refine x_aload_n dx_V_hasSettledArguments_10 rfl rfl ?_
  refine x_get fa_V_9 dx_V_hasSettledArguments_11 (by decide) rfl rfl ?_
  refine x_get fa_V_85 dx_V_hasSettledArguments_14 (by decide) rfl rfl ?_
  refine x_iload_n dx_V_hasSettledArguments_17 rfl rfl ?_
  refine x_iald dx_V_hasSettledArguments_18 (by decide) rfl (by omega) (by omega) (by decide) ?_
  refine x_istore dx_V_hasSettledArguments_19 (by decide) ?_
  refine x_iload_n dx_V_hasSettledArguments_21 rfl rfl ?_
  refine x_iconst dx_V_hasSettledArguments_22 ?_
  refine x_icmp_eq (tgt := 36) dx_V_hasSettledArguments_23 (by decide) (by first | exact hs.2.1 _ _ | exact hs.1 _ | exact ⟨by omega, by omega⟩) (by first | exact hs.2.1 _ _ | exact hs.1 _ | exact ⟨by omega, by omega⟩) (fun h23 => ?_) (fun h23 => ?_)
  ·
    refine x_iload dx_V_hasSettledArguments_36 rfl ?_
    refine x_iconst dx_V_hasSettledArguments_38 ?_
    refine x_icmp_eq (tgt := 53) dx_V_hasSettledArguments_39 (by decide) (by first | exact hs.2.1 _ _ | exact hs.1 _ | exact ⟨by omega, by omega⟩) (by first | exact hs.2.1 _ _ | exact hs.1 _ | exact ⟨by omega, by omega⟩) (fun h39 => ?_) (fun h39 => ?_)
    ·
      refine x_iconst dx_V_hasSettledArguments_53 ?_
      refine x_goto (tgt := 58) dx_V_hasSettledArguments_54 (by decide) ?_
      exact hret _ _ _ _ ⟨bz_t ⟨by omega, by omega⟩, rfl⟩ rfl dx_V_hasSettledArguments_58
    ·
      refine x_aload_n dx_V_hasSettledArguments_42 rfl rfl ?_
      refine x_aload_n dx_V_hasSettledArguments_43 rfl rfl ?_
      refine x_iload dx_V_hasSettledArguments_44 rfl ?_
      refine x_cvi2 (c_V_valueUnder hr (hs.2.1 _ _) hb) cf_V_86 ⟨rfl, rfl, by decide, by decide⟩ ⟨Nat.zero_le _, Nat.zero_le _⟩ (wl_get (by decide)) rfl rfl (Nat.le_of_ble_eq_true rfl) dx_V_hasSettledArguments_46 (fun z u hp => ?_)
      obtain ⟨rfl, rfl⟩ := hp
      refine x_iconst dx_V_hasSettledArguments_49 ?_
      refine x_icmp_eq (tgt := 57) dx_V_hasSettledArguments_50 (by decide) (vu_rg hs) ⟨by decide, by decide⟩ (fun h50 => ?_) (fun h50 => ?_)
      ·
        refine x_iconst dx_V_hasSettledArguments_57 ?_
        exact hret _ _ _ _ ⟨bz_f (by omega), rfl⟩ rfl dx_V_hasSettledArguments_58
      ·
        refine x_iconst dx_V_hasSettledArguments_53 ?_
        refine x_goto (tgt := 58) dx_V_hasSettledArguments_54 (by decide) ?_
        exact hret _ _ _ _ ⟨bz_t ⟨by omega, by omega⟩, rfl⟩ rfl dx_V_hasSettledArguments_58
  ·
    refine x_aload_n dx_V_hasSettledArguments_26 rfl rfl ?_
    refine x_aload_n dx_V_hasSettledArguments_27 rfl rfl ?_
    refine x_iload_n dx_V_hasSettledArguments_28 rfl rfl ?_
    refine x_cvi2 (c_V_valueUnder hr (hs.2.1 _ _) ha) cf_V_86 ⟨rfl, rfl, by decide, by decide⟩ ⟨Nat.zero_le _, Nat.zero_le _⟩ (wl_get (by decide)) rfl rfl (Nat.le_of_ble_eq_true rfl) dx_V_hasSettledArguments_29 (fun z u hp => ?_)
    obtain ⟨rfl, rfl⟩ := hp
    refine x_iconst dx_V_hasSettledArguments_32 ?_
    refine x_icmp_eq (tgt := 57) dx_V_hasSettledArguments_33 (by decide) (vu_rg hs) ⟨by decide, by decide⟩ (fun h33 => ?_) (fun h33 => ?_)
    ·
      refine x_iconst dx_V_hasSettledArguments_57 ?_
      exact hret _ _ _ _ ⟨bz_f (by omega), rfl⟩ rfl dx_V_hasSettledArguments_58
    ·
      refine x_iload dx_V_hasSettledArguments_36 rfl ?_
      refine x_iconst dx_V_hasSettledArguments_38 ?_
      refine x_icmp_eq (tgt := 53) dx_V_hasSettledArguments_39 (by decide) (by first | exact hs.2.1 _ _ | exact hs.1 _ | exact ⟨by omega, by omega⟩) (by first | exact hs.2.1 _ _ | exact hs.1 _ | exact ⟨by omega, by omega⟩) (fun h39 => ?_) (fun h39 => ?_)
      ·
        refine x_iconst dx_V_hasSettledArguments_53 ?_
        refine x_goto (tgt := 58) dx_V_hasSettledArguments_54 (by decide) ?_
        exact hret _ _ _ _ ⟨bz_t ⟨by omega, by omega⟩, rfl⟩ rfl dx_V_hasSettledArguments_58
      ·
        refine x_aload_n dx_V_hasSettledArguments_42 rfl rfl ?_
        refine x_aload_n dx_V_hasSettledArguments_43 rfl rfl ?_
        refine x_iload dx_V_hasSettledArguments_44 rfl ?_
        refine x_cvi2 (c_V_valueUnder hr (hs.2.1 _ _) hb) cf_V_86 ⟨rfl, rfl, by decide, by decide⟩ ⟨Nat.zero_le _, Nat.zero_le _⟩ (wl_get (by decide)) rfl rfl (Nat.le_of_ble_eq_true rfl) dx_V_hasSettledArguments_46 (fun z u hp => ?_)
        obtain ⟨rfl, rfl⟩ := hp
        refine x_iconst dx_V_hasSettledArguments_49 ?_
        refine x_icmp_eq (tgt := 57) dx_V_hasSettledArguments_50 (by decide) (vu_rg hs) ⟨by decide, by decide⟩ (fun h50 => ?_) (fun h50 => ?_)
        ·
          refine x_iconst dx_V_hasSettledArguments_57 ?_
          exact hret _ _ _ _ ⟨bz_f (by omega), rfl⟩ rfl dx_V_hasSettledArguments_58
        ·
          refine x_iconst dx_V_hasSettledArguments_53 ?_
          refine x_goto (tgt := 58) dx_V_hasSettledArguments_54 (by decide) ?_
          exact hret _ _ _ _ ⟨bz_t ⟨by omega, by omega⟩, rfl⟩ rfl dx_V_hasSettledArguments_58
