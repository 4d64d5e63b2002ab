set_option maxRecDepth 100000 in
set_option maxHeartbeats 4000000 in
theorem c_E_moveClass {l : Launch} {D : va_G} {ca : Nat → ClassId} {ad : Nat → Nat} {σ : S0} {r : Nat} {p q : Int} (hs : Ok σ) (hr : r < 21) (hn0 : 0 ≤ σ.1 0) (hn : σ.1 0 ≤ 40) (hp : Rg p) : CV l mn_E_moveClass kw_E_moveClass (rmk 1) D ca [.ref (ad 2), .ref (ad (21 + r)), .int (zI p), .int (zI q)] (wg 82 LT ca ad σ) (fun u => stR σ (21 + r) (mvF (σ.2.1 (21 + r)) p q (σ.1 0)) = u) (wg 82 LT ca ad) := by
  refine cv_in rc_E cd_E_moveClass 5 rfl rfl (by decide) (Nat.le_of_ble_eq_true rfl) (fun κ h1 h2 h3 hret => ?_)
  subst h1; subst h2; subst h3
  refine x_lv [(0, .ref (ad 2)), (1, .ref (ad (21 + r))), (2, .int (zI p)), (3, .int (zI q))] rfl ?_
  refine x_iconst dx_E_moveClass_0 ?_
  refine x_istore dx_E_moveClass_1 (by decide) ?_
  refine x_w (congrArg (wg 82 LT κ.2.2.1.2.2 ad) (show σ = stR σ (21 + r) (mvF (σ.2.1 (21 + r)) p q 0) by rw [mvF_0, stR_self])) ?_
  refine x_lv [(0, .ref (ad 2)), (1, .ref (ad (21 + r))), (2, .int (zI p)), (3, .int (zI q)), (4, .int (zI 0))] rfl ?_
  refine x_loop (fun i : Int => X κ (rmk 1) rc_E cd_E_moveClass 5 (wg 82 LT κ.2.2.1.2.2 ad (stR σ (21 + r) (mvF (σ.2.1 (21 + r)) p q i))) 0 0 3 [(0, .ref (ad 2)), (1, .ref (ad (21 + r))), (2, .int (zI p)), (3, .int (zI q)), (4, .int (zI i))] []) (fun i => 0 ≤ i ∧ i ≤ σ.1 0) (fun i => (σ.1 0 - i).toNat) (fun i hi3 ih3 => ?_) 0 ⟨by omega, hn0⟩
  obtain ⟨hi0, hi1⟩ := hi3
  refine x_iload dx_E_moveClass_3 rfl ?_
  refine x_aload_n dx_E_moveClass_5 rfl rfl ?_
  refine x_get fa_E_9 dx_E_moveClass_6 (by decide) rfl rfl ?_
  refine x_get fa_E_74 dx_E_moveClass_9 (by decide) rfl rfl ?_
  refine x_icmp_ge (tgt := 34) dx_E_moveClass_12 (by decide) ⟨by omega, by omega⟩ (hs.1 _) (fun h12 => ?_) (fun h12 => ?_)
  ·
    have h12 : σ.1 0 ≤ i := h12
    have e : i = σ.1 0 := Int.le_antisymm hi1 h12
    subst e
    exact hret _ _ _ rfl dx_E_moveClass_34
  ·
    have h12 : i < σ.1 0 := h12
    refine x_aload_n dx_E_moveClass_15 rfl rfl ?_
    refine x_iload dx_E_moveClass_16 rfl ?_
    refine x_iald dx_E_moveClass_18 (by omega) (kT_row hr) (by omega) (by omega) (by decide) ?_
    rw [stR_at, mvF_at]
    refine x_iload_n dx_E_moveClass_19 rfl rfl ?_
    refine x_icmp_ne (tgt := 28) dx_E_moveClass_20 (by decide) (hs.2.1 _ _) hp (fun h20 => ?_) (fun h20 => ?_)
    ·
      refine x_iinc dx_E_moveClass_28 rfl (by decide) ?_
      refine x_goto (tgt := 3) dx_E_moveClass_31 (by decide) ?_
      refine x_w (congrArg (wg 82 LT κ.2.2.1.2.2 ad) (show _ = stR σ (21 + r) (mvF (σ.2.1 (21 + r)) p q (i + 1)) by first | (rw [mvF_ne h20]) | (rw [mvF_eq hi0 h20]; unfold stF; rw [stR_at, stR_stR]))) ?_
      refine x_lv [(0, .ref (ad 2)), (1, .ref (ad (21 + r))), (2, .int (zI p)), (3, .int (zI q)), (4, .int (zI (i + 1)))] rfl ?_
      exact ih3 (i + 1) ⟨by omega, by omega⟩ (by omega)
    ·
      refine x_aload_n dx_E_moveClass_23 rfl rfl ?_
      refine x_iload dx_E_moveClass_24 rfl ?_
      refine x_iload_n dx_E_moveClass_26 rfl rfl ?_
      refine x_iast dx_E_moveClass_27 (by omega) (kT_row hr) (by omega) (by omega) (by decide) ?_
      refine x_iinc dx_E_moveClass_28 rfl (by decide) ?_
      refine x_goto (tgt := 3) dx_E_moveClass_31 (by decide) ?_
      refine x_w (congrArg (wg 82 LT κ.2.2.1.2.2 ad) (show _ = stR σ (21 + r) (mvF (σ.2.1 (21 + r)) p q (i + 1)) by first | (rw [mvF_ne h20]) | (rw [mvF_eq hi0 h20]; unfold stF; rw [stR_at, stR_stR]))) ?_
      refine x_lv [(0, .ref (ad 2)), (1, .ref (ad (21 + r))), (2, .int (zI p)), (3, .int (zI q)), (4, .int (zI (i + 1)))] rfl ?_
      exact ih3 (i + 1) ⟨by omega, by omega⟩ (by omega)
set_option maxRecDepth 100000 in
set_option maxHeartbeats 4000000 in
theorem c_E_addPair {l : Launch} {D : va_G} {ca : Nat → ClassId} {ad : Nat → Nat} {σ : S0} {s t : Int} (hs : Ok σ) (h0 : 0 ≤ σ.1 1) (hrs : Rg s) (hrt : Rg t) : CV l mn_E_addPair kw_E_addPair (rmk 2) D ca [.ref (ad 2), .int (zI s), .int (zI t)] (wg 82 LT ca ad σ) (fun u => apn σ s t = u) (wg 82 LT ca ad) := by
  refine cv_in rc_E cd_E_addPair 3 rfl rfl (by decide) (Nat.le_of_ble_eq_true rfl) (fun κ h1 h2 h3 hret => ?_)
  subst h1; subst h2; subst h3
  refine x_lv [(0, .ref (ad 2)), (1, .int (zI s)), (2, .int (zI t))] rfl ?_
  refine x_aload_n dx_E_addPair_0 rfl rfl ?_
  refine x_get fa_E_9 dx_E_addPair_1 (by decide) rfl rfl ?_
  refine x_iload_n dx_E_addPair_4 rfl rfl ?_
  refine x_cvi1 (c_N_has hs hrs) cf_E_77 ⟨rfl, rfl, by decide, by decide⟩ ⟨Nat.zero_le _, Nat.zero_le _⟩ (wl_get (by decide)) rfl rfl (Nat.le_of_ble_eq_true rfl) dx_E_addPair_5 (fun z u hp => ?_)
  obtain ⟨rfl, rfl⟩ := hp
  refine x_ifb_eq (tgt := 61) dx_E_addPair_8 (by decide) (fun h8 => ?_) (fun h8 => ?_)
  ·
    first
      | exact hret _ _ _ (if_pos ⟨h8, h19, h28⟩) dx_E_addPair_61
      | exact hret _ _ _ (if_neg (fun c => h8 c.1)) dx_E_addPair_61
      | exact hret _ _ _ (if_neg (fun c => h19 c.2.1)) dx_E_addPair_61
      | exact hret _ _ _ (if_neg (fun c => by have := c.2.2; omega)) dx_E_addPair_61
  ·
    refine x_aload_n dx_E_addPair_11 rfl rfl ?_
    refine x_get fa_E_9 dx_E_addPair_12 (by decide) rfl rfl ?_
    refine x_iload_n dx_E_addPair_15 rfl rfl ?_
    refine x_cvi1 (c_N_has hs hrt) cf_E_77 ⟨rfl, rfl, by decide, by decide⟩ ⟨Nat.zero_le _, Nat.zero_le _⟩ (wl_get (by decide)) rfl rfl (Nat.le_of_ble_eq_true rfl) dx_E_addPair_16 (fun z u hp => ?_)
    obtain ⟨rfl, rfl⟩ := hp
    refine x_ifb_eq (tgt := 61) dx_E_addPair_19 (by decide) (fun h19 => ?_) (fun h19 => ?_)
    ·
      first
        | exact hret _ _ _ (if_pos ⟨h8, h19, h28⟩) dx_E_addPair_61
        | exact hret _ _ _ (if_neg (fun c => h8 c.1)) dx_E_addPair_61
        | exact hret _ _ _ (if_neg (fun c => h19 c.2.1)) dx_E_addPair_61
        | exact hret _ _ _ (if_neg (fun c => by have := c.2.2; omega)) dx_E_addPair_61
    ·
      refine x_aload_n dx_E_addPair_22 rfl rfl ?_
      refine x_get fa_E_27 dx_E_addPair_23 (by decide) rfl rfl ?_
      refine x_bipush dx_E_addPair_26 (by decide) ?_
      refine x_icmp_ge (tgt := 61) dx_E_addPair_28 (by decide) (hs.1 _) ⟨by decide, by decide⟩ (fun h28 => ?_) (fun h28 => ?_)
      ·
        first
          | exact hret _ _ _ (if_pos ⟨h8, h19, h28⟩) dx_E_addPair_61
          | exact hret _ _ _ (if_neg (fun c => h8 c.1)) dx_E_addPair_61
          | exact hret _ _ _ (if_neg (fun c => h19 c.2.1)) dx_E_addPair_61
          | exact hret _ _ _ (if_neg (fun c => by have := c.2.2; omega)) dx_E_addPair_61
      ·
        refine x_aload_n dx_E_addPair_31 rfl rfl ?_
        refine x_get fa_E_20 dx_E_addPair_32 (by decide) rfl rfl ?_
        refine x_aload_n dx_E_addPair_35 rfl rfl ?_
        refine x_get fa_E_27 dx_E_addPair_36 (by decide) rfl rfl ?_
        refine x_iload_n dx_E_addPair_39 rfl rfl ?_
        refine x_iast dx_E_addPair_40 (by decide) rfl (by omega) (by omega) (by decide) ?_
        refine x_aload_n dx_E_addPair_41 rfl rfl ?_
        refine x_get fa_E_24 dx_E_addPair_42 (by decide) rfl rfl ?_
        refine x_aload_n dx_E_addPair_45 rfl rfl ?_
        refine x_get fa_E_27 dx_E_addPair_46 (by decide) rfl rfl ?_
        refine x_iload_n dx_E_addPair_49 rfl rfl ?_
        refine x_iast dx_E_addPair_50 (by decide) rfl (show (0 : Int) ≤ σ.1 1 by omega) (show σ.1 1 < ((80 : Nat) : Int) by omega) (by decide) ?_
        refine x_aload_n dx_E_addPair_51 rfl rfl ?_
        refine x_dup dx_E_addPair_52 rfl ?_
        refine x_get fa_E_27 dx_E_addPair_53 (by decide) rfl rfl ?_
        refine x_iconst dx_E_addPair_56 ?_
        refine x_iadd dx_E_addPair_57 ?_
        refine x_put fp_E_27 io_pairCount dx_E_addPair_58 (by decide) rfl rfl ?_
        first
          | exact hret _ _ _ (if_pos ⟨h8, h19, h28⟩) dx_E_addPair_61
          | exact hret _ _ _ (if_neg (fun c => h8 c.1)) dx_E_addPair_61
          | exact hret _ _ _ (if_neg (fun c => h19 c.2.1)) dx_E_addPair_61
          | exact hret _ _ _ (if_neg (fun c => by have := c.2.2; omega)) dx_E_addPair_61
set_option maxRecDepth 100000 in
set_option maxHeartbeats 4000000 in
theorem c_V_countClasses {l : Launch} {D : va_G} {ca : Nat → ClassId} {ad : Nat → Nat} {σ : S0} {r : Nat} (hs : Ok σ) (hr : r < 21) (hn0 : 0 ≤ σ.1 0) (hn : σ.1 0 ≤ 40) : CI l mn_V_countClasses kw_V_countClasses (rmk 1) D ca [.ref (ad 3), .ref (ad (21 + r))] (wg 82 LT ca ad σ) (fun z u => reps (σ.2.1 (21 + r)) (σ.1 0) = z ∧ σ = u) (wg 82 LT ca ad) := by
  refine ci_in rc_V cd_V_countClasses 4 .int rfl rfl (by decide) (Nat.le_of_ble_eq_true rfl) (fun κ h1 h2 h3 hret => ?_)
  subst h1; subst h2; subst h3
  refine x_lv [(0, .ref (ad 3)), (1, .ref (ad (21 + r)))] rfl ?_
  refine x_iconst dx_V_countClasses_0 ?_
  refine x_istore_n dx_V_countClasses_1 rfl (by decide) ?_
  refine x_iconst dx_V_countClasses_2 ?_
  refine x_istore_n dx_V_countClasses_3 rfl (by decide) ?_
  refine x_lv [(0, .ref (ad 3)), (1, .ref (ad (21 + r))), (2, .int (zI 0)), (3, .int (zI 0))] rfl ?_
  refine x_loop (fun a : Int × Int => X κ (rmk 1) rc_V cd_V_countClasses 4 (wg 82 LT κ.2.2.1.2.2 ad (σ)) 0 0 4 [(0, .ref (ad 3)), (1, .ref (ad (21 + r))), (2, .int (zI a.2)), (3, .int (zI a.1))] []) (fun a => 0 ≤ a.1 ∧ a.1 ≤ σ.1 0 ∧ sm (fun x => bz (σ.2.1 (21 + r) x = x)) a.1.toNat = a.2) (fun a => (σ.1 0 - a.1).toNat) (fun a hi4 ih4 => ?_) (0, 0) ⟨by decide, hn0, rfl⟩
  obtain ⟨x, c⟩ := a
  obtain ⟨hi0, hi1, hi2⟩ := hi4
  dsimp only at hi0 hi1 hi2 ⊢
  refine x_iload_n dx_V_countClasses_4 rfl rfl ?_
  refine x_aload_n dx_V_countClasses_5 rfl rfl ?_
  refine x_get fa_V_9 dx_V_countClasses_6 (by decide) rfl rfl ?_
  refine x_get fa_V_65 dx_V_countClasses_9 (by decide) rfl rfl ?_
  refine x_icmp_ge (tgt := 31) dx_V_countClasses_12 (by decide) ⟨by omega, by omega⟩ (hs.1 _) (fun h12 => ?_) (fun h12 => ?_)
  ·
    refine x_iload_n dx_V_countClasses_31 rfl rfl ?_
    have e : x = σ.1 0 := Int.le_antisymm hi1 h12
    subst e
    exact hret _ _ _ _ ⟨hi2, rfl⟩ rfl dx_V_countClasses_32
  ·
    refine x_aload_n dx_V_countClasses_15 rfl rfl ?_
    refine x_iload_n dx_V_countClasses_16 rfl rfl ?_
    refine x_iald dx_V_countClasses_17 (by omega) (kT_row hr) (by omega) (by omega) (by decide) ?_
    refine x_iload_n dx_V_countClasses_18 rfl rfl ?_
    refine x_icmp_ne (tgt := 25) dx_V_countClasses_19 (by decide) (hs.2.1 _ _) ⟨by omega, by omega⟩ (fun h19 => ?_) (fun h19 => ?_)
    ·
      refine x_iinc dx_V_countClasses_25 rfl (by decide) ?_
      refine x_goto (tgt := 4) dx_V_countClasses_28 (by decide) ?_
      first
        | (refine x_lv [(0, .ref (ad 3)), (1, .ref (ad (21 + r))), (2, .int (zI (c + 1))), (3, .int (zI (x + 1)))] rfl ?_; exact ih4 ((x + 1), (c + 1)) ⟨by dsimp only; omega, by dsimp only; omega, by dsimp only; rw [sm_succ _ hi0, hi2, bz_t h19]⟩ (by dsimp only; omega))
        | (refine x_lv [(0, .ref (ad 3)), (1, .ref (ad (21 + r))), (2, .int (zI c)), (3, .int (zI (x + 1)))] rfl ?_; exact ih4 ((x + 1), c) ⟨by dsimp only; omega, by dsimp only; omega, by dsimp only; rw [sm_succ _ hi0, hi2, bz_f h19]; omega⟩ (by dsimp only; omega))
    ·
      refine x_iinc dx_V_countClasses_22 rfl (by decide) ?_
      refine x_iinc dx_V_countClasses_25 rfl (by decide) ?_
      refine x_goto (tgt := 4) dx_V_countClasses_28 (by decide) ?_
      first
        | (refine x_lv [(0, .ref (ad 3)), (1, .ref (ad (21 + r))), (2, .int (zI (c + 1))), (3, .int (zI (x + 1)))] rfl ?_; exact ih4 ((x + 1), (c + 1)) ⟨by dsimp only; omega, by dsimp only; omega, by dsimp only; rw [sm_succ _ hi0, hi2, bz_t h19]⟩ (by dsimp only; omega))
        | (refine x_lv [(0, .ref (ad 3)), (1, .ref (ad (21 + r))), (2, .int (zI c)), (3, .int (zI (x + 1)))] rfl ?_; exact ih4 ((x + 1), c) ⟨by dsimp only; omega, by dsimp only; omega, by dsimp only; rw [sm_succ _ hi0, hi2, bz_f h19]; omega⟩ (by dsimp only; omega))
