theorem rg_b {x y : Int} (h0 : 0 ≤ x) (h1 : x ≤ y) (hy : y < 2147483648) : Rg x := ⟨by omega, by omega⟩
set_option maxRecDepth 100000 in
set_option maxHeartbeats 4000000 in
theorem c_V_addValue {l : Launch} {D : va_G} {ca : Nat → ClassId} {ad : Nat → Nat} {σ : S0} {k a b : Int} (hv : VT σ) (hm : σ.1 3 < 40) (ha : a = -1 ∨ In (σ.1 3) a) (hb : b = -1 ∨ In (σ.1 3) b) : CI l mn_V_addValue kw_V_addValue (rmk 2) D ca [.ref (ad 3), .int (zI k), .int (zI a), .int (zI b)] (wg 82 LT ca ad σ) (fun z u => σ.1 3 = z ∧ adv σ k a b = u) (wg 82 LT ca ad) := by
  refine ci_in rc_V cd_V_addValue 5 .int rfl rfl (by decide) (Nat.le_of_ble_eq_true rfl) (fun κ h1 h2 h3 hret => ?_)
  subst h1; subst h2; subst h3
  refine x_lv [(0, .ref (ad 3)), (1, .int (zI k)), (2, .int (zI a)), (3, .int (zI b))] rfl ?_
  have h0 := hv.1
  have ha4 : a = -1 ∨ (0 ≤ a ∧ a < 40) := by omega
  have hb4 : b = -1 ∨ (0 ≤ b ∧ b < 40) := by omega
  have hra : Rg a := ⟨by omega, by omega⟩
  have hrb : Rg b := ⟨by omega, by omega⟩
  have B := vt_bounds hv ha
  have B9 := vt_bounds hv hb
  have hp := p2_le (show (σ.1 3).toNat ≤ 40 by omega)
  refine x_aload_n dx_V_addValue_0 rfl rfl ?_
  refine x_get fa_V_41 dx_V_addValue_1 (by decide) rfl rfl ?_
  refine x_istore dx_V_addValue_4 (by decide) ?_
  refine x_aload_n dx_V_addValue_6 rfl rfl ?_
  refine x_get fa_V_19 dx_V_addValue_7 (by decide) rfl rfl ?_
  refine x_iload dx_V_addValue_10 rfl ?_
  refine x_iload_n dx_V_addValue_12 rfl rfl ?_
  refine x_iast dx_V_addValue_13 (by decide) rfl (by omega) (by omega) (by decide) ?_
  refine x_aload_n dx_V_addValue_14 rfl rfl ?_
  refine x_get fa_V_22 dx_V_addValue_15 (by decide) rfl rfl ?_
  refine x_iload dx_V_addValue_18 rfl ?_
  refine x_iload_n dx_V_addValue_20 rfl rfl ?_
  refine x_iast dx_V_addValue_21 (by decide) rfl (by omega) (by omega) (by decide) ?_
  refine x_aload_n dx_V_addValue_22 rfl rfl ?_
  refine x_get fa_V_25 dx_V_addValue_23 (by decide) rfl rfl ?_
  refine x_iload dx_V_addValue_26 rfl ?_
  refine x_iload_n dx_V_addValue_28 rfl rfl ?_
  refine x_iast dx_V_addValue_29 (by decide) rfl (by omega) (by omega) (by decide) ?_
  refine x_aload_n dx_V_addValue_30 rfl rfl ?_
  refine x_get fa_V_34 dx_V_addValue_31 (by decide) rfl rfl ?_
  refine x_iload dx_V_addValue_34 rfl ?_
  refine x_lconst (z := 1) dx_V_addValue_36 (by decide) ?_
  refine x_aload_n dx_V_addValue_37 rfl rfl ?_
  refine x_iload_n dx_V_addValue_38 rfl rfl ?_
  refine x_cvl1 (c_V_sizeOrNone hra ha4) cf_V_94 ⟨rfl, rfl, by decide, by decide⟩ ⟨Nat.zero_le _, Nat.zero_le _⟩ (wl_get (by decide)) rfl rfl (Nat.le_of_ble_eq_true rfl) dx_V_addValue_39 (fun z u hp => ?_)
  obtain ⟨rfl, rfl⟩ := hp
  refine x_ladd dx_V_addValue_42 ?_
  refine x_aload_n dx_V_addValue_43 rfl rfl ?_
  refine x_iload_n dx_V_addValue_44 rfl rfl ?_
  refine x_cvl1 (c_V_sizeOrNone hrb hb4) cf_V_94 ⟨rfl, rfl, by decide, by decide⟩ ⟨Nat.zero_le _, Nat.zero_le _⟩ (wl_get (by decide)) rfl rfl (Nat.le_of_ble_eq_true rfl) dx_V_addValue_45 (fun z u hp => ?_)
  obtain ⟨rfl, rfl⟩ := hp
  refine x_ladd dx_V_addValue_48 ?_
  refine x_last dx_V_addValue_49 (by decide) rfl (by omega) (by omega) (by decide) ?_
  refine x_aload_n dx_V_addValue_50 rfl rfl ?_
  refine x_get fa_V_28 dx_V_addValue_51 (by decide) rfl rfl ?_
  refine x_iload dx_V_addValue_54 rfl ?_
  refine x_iconst dx_V_addValue_56 ?_
  refine x_aload_n dx_V_addValue_57 rfl rfl ?_
  refine x_iload_n dx_V_addValue_58 rfl rfl ?_
  refine x_cvi1 (c_V_depthOrNone hra ha4) cf_V_98 ⟨rfl, rfl, by decide, by decide⟩ ⟨Nat.zero_le _, Nat.zero_le _⟩ (wl_get (by decide)) rfl rfl (Nat.le_of_ble_eq_true rfl) dx_V_addValue_59 (fun z u hp => ?_)
  obtain ⟨rfl, rfl⟩ := hp
  refine x_aload_n dx_V_addValue_62 rfl rfl ?_
  refine x_iload_n dx_V_addValue_63 rfl rfl ?_
  refine x_cvi1 (c_V_depthOrNone hrb hb4) cf_V_98 ⟨rfl, rfl, by decide, by decide⟩ ⟨Nat.zero_le _, Nat.zero_le _⟩ (wl_get (by decide)) rfl rfl (Nat.le_of_ble_eq_true rfl) dx_V_addValue_64 (fun z u hp => ?_)
  obtain ⟨rfl, rfl⟩ := hp
  refine x_max mm_V dx_V_addValue_67 (rg_b B.2.1.1 B.2.1.2 (by omega)) (rg_b B9.2.1.1 B9.2.1.2 (by omega)) (by decide) (Nat.le_of_ble_eq_true rfl) ⟨Nat.zero_le _, Nat.zero_le _⟩ ?_
  refine x_iadd dx_V_addValue_70 ?_
  refine x_iast dx_V_addValue_71 (by decide) rfl (by omega) (by omega) (by decide) ?_
  refine x_aload_n dx_V_addValue_72 rfl rfl ?_
  refine x_get fa_V_38 dx_V_addValue_73 (by decide) rfl rfl ?_
  refine x_iload dx_V_addValue_76 rfl ?_
  refine x_aload_n dx_V_addValue_78 rfl rfl ?_
  refine x_iload_n dx_V_addValue_79 rfl rfl ?_
  refine x_cvl1 (c_V_holdsOrNone hra ha4) cf_V_108 ⟨rfl, rfl, by decide, by decide⟩ ⟨Nat.zero_le _, Nat.zero_le _⟩ (wl_get (by decide)) rfl rfl (Nat.le_of_ble_eq_true rfl) dx_V_addValue_80 (fun z u hp => ?_)
  obtain ⟨rfl, rfl⟩ := hp
  refine x_aload_n dx_V_addValue_83 rfl rfl ?_
  refine x_iload_n dx_V_addValue_84 rfl rfl ?_
  refine x_cvl1 (c_V_holdsOrNone hrb hb4) cf_V_108 ⟨rfl, rfl, by decide, by decide⟩ ⟨Nat.zero_le _, Nat.zero_le _⟩ (wl_get (by decide)) rfl rfl (Nat.le_of_ble_eq_true rfl) dx_V_addValue_85 (fun z u hp => ?_)
  obtain ⟨rfl, rfl⟩ := hp
  refine x_lor dx_V_addValue_88 (orI_zL B.2.2.1 (Int.lt_of_lt_of_le B.2.2.2 hp) B9.2.2.1 (Int.lt_of_lt_of_le B9.2.2.2 hp)) ?_
  refine x_last dx_V_addValue_89 (by decide) rfl (by omega) (by omega) (by decide) ?_
  refine x_aload_n dx_V_addValue_90 rfl rfl ?_
  refine x_get fa_V_31 dx_V_addValue_91 (by decide) rfl rfl ?_
  refine x_iload dx_V_addValue_94 rfl ?_
  refine x_iconst dx_V_addValue_96 ?_
  refine x_iast dx_V_addValue_97 (by decide) rfl (by omega) (by omega) (by decide) ?_
  refine x_aload_n dx_V_addValue_98 rfl rfl ?_
  refine x_dup dx_V_addValue_99 rfl ?_
  refine x_get fa_V_41 dx_V_addValue_100 (by decide) rfl rfl ?_
  refine x_iconst dx_V_addValue_103 ?_
  refine x_iadd dx_V_addValue_104 ?_
  refine x_put fp_V_41 io_vmade dx_V_addValue_105 (by decide) rfl rfl ?_
  refine x_iload dx_V_addValue_108 rfl ?_
  exact hret _ _ _ _ ⟨rfl, rfl⟩ rfl dx_V_addValue_110
set_option maxRecDepth 100000 in
set_option maxHeartbeats 4000000 in
theorem c_V_addVariable {l : Launch} {D : va_G} {ca : Nat → ClassId} {ad : Nat → Nat} {σ : S0}  (hv : VT σ) (hm : σ.1 3 < 40) : CI l mn_V_addVariable kw_V_addVariable (rmk 3) D ca [.ref (ad 3)] (wg 82 LT ca ad σ) (fun z u => σ.1 3 = z ∧ adw σ = u) (wg 82 LT ca ad) := by
  refine ci_in rc_V cd_V_addVariable 2 .int rfl rfl (by decide) (Nat.le_of_ble_eq_true rfl) (fun κ h1 h2 h3 hret => ?_)
  subst h1; subst h2; subst h3
  refine x_lv [(0, .ref (ad 3))] rfl ?_
  have h0 := hv.1
  refine x_aload_n dx_V_addVariable_0 rfl rfl ?_
  refine x_iconst dx_V_addVariable_1 ?_
  refine x_iconst dx_V_addVariable_2 ?_
  refine x_iconst dx_V_addVariable_3 ?_
  refine x_cvi3 (c_V_addValue hv hm (Or.inl rfl) (Or.inl rfl)) cf_V_90 ⟨rfl, rfl, by decide, by decide⟩ ⟨Nat.zero_le _, Nat.zero_le _⟩ (wl_get (by decide)) rfl rfl (Nat.le_of_ble_eq_true rfl) dx_V_addVariable_4 (fun z u hp => ?_)
  obtain ⟨rfl, rfl⟩ := hp
  refine x_istore_n dx_V_addVariable_7 rfl (by decide) ?_
  refine x_aload_n dx_V_addVariable_8 rfl rfl ?_
  refine x_get fa_V_38 dx_V_addVariable_9 (by decide) rfl rfl ?_
  refine x_iload_n dx_V_addVariable_12 rfl rfl ?_
  refine x_lconst (z := 1) dx_V_addVariable_13 (by decide) ?_
  refine x_iload_n dx_V_addVariable_14 rfl rfl ?_
  refine x_lshl dx_V_addVariable_15 (shl1_zL h0 (by omega)) ?_
  refine x_last dx_V_addVariable_16 (by decide) rfl (by omega) (by omega) (by decide) ?_
  refine x_aload_n dx_V_addVariable_17 rfl rfl ?_
  refine x_dup dx_V_addVariable_18 rfl ?_
  refine x_get fa_V_45 dx_V_addVariable_19 (by decide) rfl rfl ?_
  refine x_iconst dx_V_addVariable_22 ?_
  refine x_iadd dx_V_addVariable_23 ?_
  refine x_put fp_V_45 io_free dx_V_addVariable_24 (by decide) rfl rfl ?_
  refine x_iload_n dx_V_addVariable_27 rfl rfl ?_
  exact hret _ _ _ _ ⟨rfl, rfl⟩ rfl dx_V_addVariable_28
set_option maxRecDepth 100000 in
set_option maxHeartbeats 4000000 in
theorem c_V_valueLike {l : Launch} {D : va_G} {ca : Nat → ClassId} {ad : Nat → Nat} {σ : S0} {r : Nat} {x : Int} (hs : Ok σ) (hr : r < 21) (h0 : 0 ≤ x) (h1 : x < 40) (ha : σ.2.1 6 x = -1 ∨ (0 ≤ σ.2.1 6 x ∧ σ.2.1 6 x < 40 ∧ 0 ≤ σ.2.1 (21 + r) (σ.2.1 6 x) ∧ σ.2.1 (21 + r) (σ.2.1 6 x) < 40)) (hb : σ.2.1 7 x = -1 ∨ (0 ≤ σ.2.1 7 x ∧ σ.2.1 7 x < 40 ∧ 0 ≤ σ.2.1 (21 + r) (σ.2.1 7 x) ∧ σ.2.1 (21 + r) (σ.2.1 7 x) < 40)) (hv : VT σ) (hm : σ.1 3 < 40) (hva : vuF (σ.2.1 11) (σ.2.1 (21 + r)) (σ.2.1 6 x) = -1 ∨ In (σ.1 3) (vuF (σ.2.1 11) (σ.2.1 (21 + r)) (σ.2.1 6 x))) (hvb : vuF (σ.2.1 11) (σ.2.1 (21 + r)) (σ.2.1 7 x) = -1 ∨ In (σ.1 3) (vuF (σ.2.1 11) (σ.2.1 (21 + r)) (σ.2.1 7 x))) : CI l mn_V_valueLike kw_V_valueLike (rmk 3) D ca [.ref (ad 3), .ref (ad (21 + r)), .int (zI x)] (wg 82 LT ca ad σ) (fun z u => (In (σ.1 3) z ∧ (σ.2.1 12 z = σ.2.1 5 x ∧ σ.2.1 13 z = vuF (σ.2.1 11) (σ.2.1 (21 + r)) (σ.2.1 6 x) ∧ σ.2.1 14 z = vuF (σ.2.1 11) (σ.2.1 (21 + r)) (σ.2.1 7 x)) ∧ σ = u) ∨ ((∀ v, In (σ.1 3) v → ¬ (σ.2.1 12 v = σ.2.1 5 x ∧ σ.2.1 13 v = vuF (σ.2.1 11) (σ.2.1 (21 + r)) (σ.2.1 6 x) ∧ σ.2.1 14 v = vuF (σ.2.1 11) (σ.2.1 (21 + r)) (σ.2.1 7 x))) ∧ σ.1 3 = z ∧ adv σ (σ.2.1 5 x) (vuF (σ.2.1 11) (σ.2.1 (21 + r)) (σ.2.1 6 x)) (vuF (σ.2.1 11) (σ.2.1 (21 + r)) (σ.2.1 7 x)) = u)) (wg 82 LT ca ad) := by
  refine ci_in rc_V cd_V_valueLike 6 .int rfl rfl (by decide) (Nat.le_of_ble_eq_true rfl) (fun κ h1 h2 h3 hret => ?_)
  subst h1; subst h2; subst h3
  refine x_lv [(0, .ref (ad 3)), (1, .ref (ad (21 + r))), (2, .int (zI x))] rfl ?_
  refine x_aload_n dx_V_valueLike_0 rfl rfl ?_
  refine x_aload_n dx_V_valueLike_1 rfl rfl ?_
  refine x_aload_n dx_V_valueLike_2 rfl rfl ?_
  refine x_get fa_V_9 dx_V_valueLike_3 (by decide) rfl rfl ?_
  refine x_get fa_V_84 dx_V_valueLike_6 (by decide) rfl rfl ?_
  refine x_iload_n dx_V_valueLike_9 rfl rfl ?_
  refine x_iald dx_V_valueLike_10 (by decide) rfl (by omega) (by omega) (by decide) ?_
  refine x_cvi2 (c_V_valueUnder hr (hs.2.1 _ _) ha) cf_V_86 ⟨rfl, rfl, by decide, by decide⟩ ⟨Nat.zero_le _, Nat.zero_le _⟩ (wl_get (by decide)) rfl rfl (Nat.le_of_ble_eq_true rfl) dx_V_valueLike_11 (fun z u hp => ?_)
  obtain ⟨rfl, rfl⟩ := hp
  refine x_istore_n dx_V_valueLike_14 rfl (by decide) ?_
  refine x_aload_n dx_V_valueLike_15 rfl rfl ?_
  refine x_aload_n dx_V_valueLike_16 rfl rfl ?_
  refine x_aload_n dx_V_valueLike_17 rfl rfl ?_
  refine x_get fa_V_9 dx_V_valueLike_18 (by decide) rfl rfl ?_
  refine x_get fa_V_85 dx_V_valueLike_21 (by decide) rfl rfl ?_
  refine x_iload_n dx_V_valueLike_24 rfl rfl ?_
  refine x_iald dx_V_valueLike_25 (by decide) rfl (by omega) (by omega) (by decide) ?_
  refine x_cvi2 (c_V_valueUnder hr (hs.2.1 _ _) hb) cf_V_86 ⟨rfl, rfl, by decide, by decide⟩ ⟨Nat.zero_le _, Nat.zero_le _⟩ (wl_get (by decide)) rfl rfl (Nat.le_of_ble_eq_true rfl) dx_V_valueLike_26 (fun z u hp => ?_)
  obtain ⟨rfl, rfl⟩ := hp
  refine x_istore dx_V_valueLike_29 (by decide) ?_
  refine x_iconst dx_V_valueLike_31 ?_
  refine x_istore dx_V_valueLike_32 (by decide) ?_
  refine x_lv [(0, .ref (ad 3)), (1, .ref (ad (21 + r))), (2, .int (zI x)), (3, .int (zI (vuF (σ.2.1 11) (σ.2.1 (21 + r)) (σ.2.1 6 x)))), (4, .int (zI (vuF (σ.2.1 11) (σ.2.1 (21 + r)) (σ.2.1 7 x)))), (5, .int (zI 0))] rfl ?_
  refine x_loop (fun v : Int => X κ (rmk 3) rc_V cd_V_valueLike 6 (wg 82 LT κ.2.2.1.2.2 ad σ) 0 0 34 [(0, .ref (ad 3)), (1, .ref (ad (21 + r))), (2, .int (zI x)), (3, .int (zI (vuF (σ.2.1 11) (σ.2.1 (21 + r)) (σ.2.1 6 x)))), (4, .int (zI (vuF (σ.2.1 11) (σ.2.1 (21 + r)) (σ.2.1 7 x)))), (5, .int (zI v))] []) (fun v => 0 ≤ v ∧ v ≤ σ.1 3 ∧ ∀ w, In v w → ¬ (σ.2.1 12 w = σ.2.1 5 x ∧ σ.2.1 13 w = vuF (σ.2.1 11) (σ.2.1 (21 + r)) (σ.2.1 6 x) ∧ σ.2.1 14 w = vuF (σ.2.1 11) (σ.2.1 (21 + r)) (σ.2.1 7 x))) (fun v => (σ.1 3 - v).toNat) (fun v hi34 ih34 => ?_) 0 ⟨by decide, hv.1, fun w hw => by omega⟩
  obtain ⟨hi0, hi1, hi2⟩ := hi34
  refine x_iload dx_V_valueLike_34 rfl ?_
  refine x_aload_n dx_V_valueLike_36 rfl rfl ?_
  refine x_get fa_V_41 dx_V_valueLike_37 (by decide) rfl rfl ?_
  refine x_icmp_ge (tgt := 94) dx_V_valueLike_40 (by decide) ⟨by omega, by omega⟩ (hs.1 _) (fun h40 => ?_) (fun h40 => ?_)
  ·
    refine x_aload_n dx_V_valueLike_94 rfl rfl ?_
    refine x_aload_n dx_V_valueLike_95 rfl rfl ?_
    refine x_get fa_V_9 dx_V_valueLike_96 (by decide) rfl rfl ?_
    refine x_get fa_V_89 dx_V_valueLike_99 (by decide) rfl rfl ?_
    refine x_iload_n dx_V_valueLike_102 rfl rfl ?_
    refine x_iald dx_V_valueLike_103 (by decide) rfl (by omega) (by omega) (by decide) ?_
    refine x_iload_n dx_V_valueLike_104 rfl rfl ?_
    refine x_iload dx_V_valueLike_105 rfl ?_
    refine x_cvi3 (c_V_addValue hv hm hva hvb) cf_V_90 ⟨rfl, rfl, by decide, by decide⟩ ⟨Nat.zero_le _, Nat.zero_le _⟩ (wl_get (by decide)) rfl rfl (Nat.le_of_ble_eq_true rfl) dx_V_valueLike_107 (fun z u hp => ?_)
    obtain ⟨rfl, rfl⟩ := hp
    have e : v = σ.1 3 := Int.le_antisymm hi1 h40
    subst e
    exact hret _ _ _ _ (Or.inr ⟨hi2, rfl, rfl⟩) rfl dx_V_valueLike_110
  ·
    refine x_aload_n dx_V_valueLike_43 rfl rfl ?_
    refine x_get fa_V_19 dx_V_valueLike_44 (by decide) rfl rfl ?_
    refine x_iload dx_V_valueLike_47 rfl ?_
    refine x_iald dx_V_valueLike_49 (by decide) rfl (by omega) (by omega) (by decide) ?_
    refine x_aload_n dx_V_valueLike_50 rfl rfl ?_
    refine x_get fa_V_9 dx_V_valueLike_51 (by decide) rfl rfl ?_
    refine x_get fa_V_89 dx_V_valueLike_54 (by decide) rfl rfl ?_
    refine x_iload_n dx_V_valueLike_57 rfl rfl ?_
    refine x_iald dx_V_valueLike_58 (by decide) rfl (by omega) (by omega) (by decide) ?_
    refine x_icmp_ne (tgt := 88) dx_V_valueLike_59 (by decide) (hs.2.1 _ _) (hs.2.1 _ _) (fun h59 => ?_) (fun h59 => ?_)
    ·
      refine x_iinc dx_V_valueLike_88 rfl (by decide) ?_
      refine x_goto (tgt := 34) dx_V_valueLike_91 (by decide) ?_
      refine x_lv [(0, .ref (ad 3)), (1, .ref (ad (21 + r))), (2, .int (zI x)), (3, .int (zI (vuF (σ.2.1 11) (σ.2.1 (21 + r)) (σ.2.1 6 x)))), (4, .int (zI (vuF (σ.2.1 11) (σ.2.1 (21 + r)) (σ.2.1 7 x)))), (5, .int (zI (v + 1)))] rfl ?_
      exact ih34 (v + 1) ⟨by omega, by omega, fun w hw c => by
                                                              by_cases e : w = v
                                                              · subst e; first | exact h59 c.1 | exact h70 c.2.1 | exact h82 c.2.2
                                                              · exact hi2 w ⟨hw.1, by omega⟩ c⟩ (by omega)
    ·
      refine x_aload_n dx_V_valueLike_62 rfl rfl ?_
      refine x_get fa_V_22 dx_V_valueLike_63 (by decide) rfl rfl ?_
      refine x_iload dx_V_valueLike_66 rfl ?_
      refine x_iald dx_V_valueLike_68 (by decide) rfl (by omega) (by omega) (by decide) ?_
      refine x_iload_n dx_V_valueLike_69 rfl rfl ?_
      refine x_icmp_ne (tgt := 88) dx_V_valueLike_70 (by decide) (hs.2.1 _ _) (vu_rg hs) (fun h70 => ?_) (fun h70 => ?_)
      ·
        refine x_iinc dx_V_valueLike_88 rfl (by decide) ?_
        refine x_goto (tgt := 34) dx_V_valueLike_91 (by decide) ?_
        refine x_lv [(0, .ref (ad 3)), (1, .ref (ad (21 + r))), (2, .int (zI x)), (3, .int (zI (vuF (σ.2.1 11) (σ.2.1 (21 + r)) (σ.2.1 6 x)))), (4, .int (zI (vuF (σ.2.1 11) (σ.2.1 (21 + r)) (σ.2.1 7 x)))), (5, .int (zI (v + 1)))] rfl ?_
        exact ih34 (v + 1) ⟨by omega, by omega, fun w hw c => by
                                                              by_cases e : w = v
                                                              · subst e; first | exact h59 c.1 | exact h70 c.2.1 | exact h82 c.2.2
                                                              · exact hi2 w ⟨hw.1, by omega⟩ c⟩ (by omega)
      ·
        refine x_aload_n dx_V_valueLike_73 rfl rfl ?_
        refine x_get fa_V_25 dx_V_valueLike_74 (by decide) rfl rfl ?_
        refine x_iload dx_V_valueLike_77 rfl ?_
        refine x_iald dx_V_valueLike_79 (by decide) rfl (by omega) (by omega) (by decide) ?_
        refine x_iload dx_V_valueLike_80 rfl ?_
        refine x_icmp_ne (tgt := 88) dx_V_valueLike_82 (by decide) (hs.2.1 _ _) (vu_rg hs) (fun h82 => ?_) (fun h82 => ?_)
        ·
          refine x_iinc dx_V_valueLike_88 rfl (by decide) ?_
          refine x_goto (tgt := 34) dx_V_valueLike_91 (by decide) ?_
          refine x_lv [(0, .ref (ad 3)), (1, .ref (ad (21 + r))), (2, .int (zI x)), (3, .int (zI (vuF (σ.2.1 11) (σ.2.1 (21 + r)) (σ.2.1 6 x)))), (4, .int (zI (vuF (σ.2.1 11) (σ.2.1 (21 + r)) (σ.2.1 7 x)))), (5, .int (zI (v + 1)))] rfl ?_
          exact ih34 (v + 1) ⟨by omega, by omega, fun w hw c => by
                                                              by_cases e : w = v
                                                              · subst e; first | exact h59 c.1 | exact h70 c.2.1 | exact h82 c.2.2
                                                              · exact hi2 w ⟨hw.1, by omega⟩ c⟩ (by omega)
        ·
          refine x_iload dx_V_valueLike_85 rfl ?_
          exact hret _ _ _ _ (Or.inl ⟨⟨hi0, h40⟩, ⟨h59, h70, h82⟩, rfl⟩) rfl dx_V_valueLike_87
