set_option maxRecDepth 100000 in
set_option maxHeartbeats 4000000 in
theorem c_M_thrown {l : Launch} {D : va_G} {ca : Nat → ClassId} {ad : Nat → Nat} {σ : S0}   : CI l mn_M_thrown kw_M_thrown (rmk 1) D ca [.ref (ad 0)] (wg 16 LM ca ad σ) (fun z u => σ.1 0 = z ∧ σ = u) (wg 16 LM ca ad) := by
  refine ci_in rc_M cd_M_thrown 1 .int rfl rfl (by decide) (Nat.le_of_ble_eq_true rfl) (fun κ h1 h2 h3 hret => ?_)
  subst h1; subst h2; subst h3
  refine x_lv [(0, .ref (ad 0))] rfl ?_
  refine x_aload_n dx_M_thrown_0 rfl rfl ?_
  refine x_get fa_M_57 dx_M_thrown_1 (by decide) rfl rfl ?_
  exact hret _ _ _ _ ⟨rfl, rfl⟩ rfl dx_M_thrown_4
set_option maxRecDepth 100000 in
set_option maxHeartbeats 4000000 in
theorem c_M_isNode {l : Launch} {D : va_G} {ca : Nat → ClassId} {ad : Nat → Nat} {σ : S0} {s : Int} (hs : Ok σ) (hr : Rg s) : CI l mn_M_isNode kw_M_isNode (rmk 1) D ca [.ref (ad 0), .int (zI s)] (wg 16 LM ca ad σ) (fun z u => bz (0 ≤ s ∧ s < σ.1 2) = z ∧ σ = u) (wg 16 LM ca ad) := by
  refine ci_in rc_M cd_M_isNode 2 .boolean rfl rfl (by decide) (Nat.le_of_ble_eq_true rfl) (fun κ h1 h2 h3 hret => ?_)
  subst h1; subst h2; subst h3
  refine x_lv [(0, .ref (ad 0)), (1, .int (zI s))] rfl ?_
  refine x_iload_n dx_M_isNode_0 rfl rfl ?_
  refine x_if_lt (tgt := 16) dx_M_isNode_1 (by decide) hr (fun h1 => ?_) (fun h1 => ?_)
  ·
    refine x_iconst dx_M_isNode_16 ?_
    first
      | exact hret _ _ _ _ ⟨bz_t ⟨h1, h9⟩, rfl⟩ rfl dx_M_isNode_17
      | exact hret _ _ _ _ ⟨bz_f (fun q => by omega), rfl⟩ rfl dx_M_isNode_17
  ·
    refine x_iload_n dx_M_isNode_4 rfl rfl ?_
    refine x_aload_n dx_M_isNode_5 rfl rfl ?_
    refine x_get fa_M_61 dx_M_isNode_6 (by decide) rfl rfl ?_
    refine x_icmp_ge (tgt := 16) dx_M_isNode_9 (by decide) hr (hs.1 _) (fun h9 => ?_) (fun h9 => ?_)
    ·
      refine x_iconst dx_M_isNode_16 ?_
      first
        | exact hret _ _ _ _ ⟨bz_t ⟨h1, h9⟩, rfl⟩ rfl dx_M_isNode_17
        | exact hret _ _ _ _ ⟨bz_f (fun q => by omega), rfl⟩ rfl dx_M_isNode_17
    ·
      refine x_iconst dx_M_isNode_12 ?_
      refine x_goto (tgt := 17) dx_M_isNode_13 (by decide) ?_
      first
        | exact hret _ _ _ _ ⟨bz_t ⟨h1, h9⟩, rfl⟩ rfl dx_M_isNode_17
        | exact hret _ _ _ _ ⟨bz_f (fun q => by omega), rfl⟩ rfl dx_M_isNode_17
set_option maxRecDepth 100000 in
set_option maxHeartbeats 4000000 in
theorem c_M_make {l : Launch} {D : va_G} {ca : Nat → ClassId} {ad : Nat → Nat} {σ : S0} {f m a b : Int} (h0 : 0 ≤ σ.1 2) (h1 : σ.1 2 < 40) : CI l mn_M_make kw_M_make (rmk 1) D ca [.ref (ad 0), .int (zI f), .int (zI m), .int (zI a), .int (zI b)] (wg 16 LM ca ad σ) (fun z u => σ.1 2 = z ∧ mkm σ f m a b = u) (wg 16 LM ca ad) := by
  refine ci_in rc_M cd_M_make 5 .int rfl rfl (by decide) (Nat.le_of_ble_eq_true rfl) (fun κ h1 h2 h3 hret => ?_)
  subst h1; subst h2; subst h3
  refine x_lv [(0, .ref (ad 0)), (1, .int (zI f)), (2, .int (zI m)), (3, .int (zI a)), (4, .int (zI b))] rfl ?_
  refine x_aload_n dx_M_make_0 rfl rfl ?_
  refine x_get fa_M_7 dx_M_make_1 (by decide) rfl rfl ?_
  refine x_aload_n dx_M_make_4 rfl rfl ?_
  refine x_get fa_M_61 dx_M_make_5 (by decide) rfl rfl ?_
  refine x_iload_n dx_M_make_8 rfl rfl ?_
  refine x_iast dx_M_make_9 (by decide) rfl (show (0 : Int) ≤ σ.1 2 from h0) (show σ.1 2 < ((40 : Nat) : Int) by omega) (by decide) ?_
  refine x_aload_n dx_M_make_10 rfl rfl ?_
  refine x_get fa_M_13 dx_M_make_11 (by decide) rfl rfl ?_
  refine x_aload_n dx_M_make_14 rfl rfl ?_
  refine x_get fa_M_61 dx_M_make_15 (by decide) rfl rfl ?_
  refine x_iload_n dx_M_make_18 rfl rfl ?_
  refine x_iast dx_M_make_19 (by decide) rfl (show (0 : Int) ≤ σ.1 2 from h0) (show σ.1 2 < ((40 : Nat) : Int) by omega) (by decide) ?_
  refine x_aload_n dx_M_make_20 rfl rfl ?_
  refine x_get fa_M_16 dx_M_make_21 (by decide) rfl rfl ?_
  refine x_aload_n dx_M_make_24 rfl rfl ?_
  refine x_get fa_M_61 dx_M_make_25 (by decide) rfl rfl ?_
  refine x_iload_n dx_M_make_28 rfl rfl ?_
  refine x_iast dx_M_make_29 (by decide) rfl (show (0 : Int) ≤ σ.1 2 from h0) (show σ.1 2 < ((40 : Nat) : Int) by omega) (by decide) ?_
  refine x_aload_n dx_M_make_30 rfl rfl ?_
  refine x_get fa_M_19 dx_M_make_31 (by decide) rfl rfl ?_
  refine x_aload_n dx_M_make_34 rfl rfl ?_
  refine x_get fa_M_61 dx_M_make_35 (by decide) rfl rfl ?_
  refine x_iload dx_M_make_38 rfl ?_
  refine x_iast dx_M_make_40 (by decide) rfl (show (0 : Int) ≤ σ.1 2 from h0) (show σ.1 2 < ((40 : Nat) : Int) by omega) (by decide) ?_
  refine x_aload_n dx_M_make_41 rfl rfl ?_
  refine x_dup dx_M_make_42 rfl ?_
  refine x_get fa_M_61 dx_M_make_43 (by decide) rfl rfl ?_
  refine x_iconst dx_M_make_46 ?_
  refine x_iadd dx_M_make_47 ?_
  refine x_put fp_M_61 jo_nodes dx_M_make_48 (by decide) rfl rfl ?_
  refine x_aload_n dx_M_make_51 rfl rfl ?_
  refine x_iconst dx_M_make_52 ?_
  refine x_put fp_M_64 jo_ready dx_M_make_53 (by decide) rfl rfl ?_
  refine x_aload_n dx_M_make_56 rfl rfl ?_
  refine x_get fa_M_61 dx_M_make_57 (by decide) rfl rfl ?_
  refine x_iconst dx_M_make_60 ?_
  refine x_isub dx_M_make_61 ?_
  refine x_st (show _ = [Value.int (zI (σ.1 2))] from by
    show [Value.int (zI (σ.1 2 + 1 - 1))] = _
    rw [show σ.1 2 + 1 - 1 = σ.1 2 by omega]) ?_
  exact hret _ _ _ _ ⟨rfl, rfl⟩ rfl dx_M_make_62
set_option maxRecDepth 100000 in
set_option maxHeartbeats 4000000 in
theorem c_M_variable {l : Launch} {D : va_G} {ca : Nat → ClassId} {ad : Nat → Nat} {σ : S0}  (hs : Ok σ) (h0 : 0 ≤ σ.1 2) (h40 : σ.1 2 ≤ 40) : CI l mn_M_variable kw_M_variable (rmk 2) D ca [.ref (ad 0)] (wg 16 LM ca ad σ) (fun z u => (σ.1 2 = 40 ∧ 0 = z ∧ stI σ 0 1 = u) ∨ (σ.1 2 < 40 ∧ σ.1 2 = z ∧ mkm (stI σ 0 0) (-1) 0 (-1) (-1) = u)) (wg 16 LM ca ad) := by
  refine ci_in rc_M cd_M_variable 1 .int rfl rfl (by decide) (Nat.le_of_ble_eq_true rfl) (fun κ h1 h2 h3 hret => ?_)
  subst h1; subst h2; subst h3
  refine x_lv [(0, .ref (ad 0))] rfl ?_
  refine x_aload_n dx_M_variable_0 rfl rfl ?_
  refine x_aload_n dx_M_variable_1 rfl rfl ?_
  refine x_get fa_M_61 dx_M_variable_2 (by decide) rfl rfl ?_
  refine x_bipush dx_M_variable_5 (by decide) ?_
  refine x_tern 15 2 (fun v => (v = 1 ∧ σ.1 2 = 40) ∨ (v = 0 ∧ σ.1 2 ≠ 40)) (fun v7 hv7 => ?_) (fun jn7 => ?_)
  ·
    refine x_put fp_M_57 jo_code dx_M_variable_15 (by decide) rfl rfl ?_
    refine x_aload_n dx_M_variable_18 rfl rfl ?_
    refine x_get fa_M_57 dx_M_variable_19 (by decide) rfl rfl ?_
    refine x_if_le (tgt := 29) dx_M_variable_22 (by decide) (show Rg v7 from ⟨by omega, by omega⟩) (fun h22 => ?_) (fun h22 => ?_)
    ·
      have h22 : v7 ≤ 0 := h22
      have e7 : v7 = 0 := by omega
      subst e7
      have hn : σ.1 2 < 40 := by omega
      refine x_aload_n dx_M_variable_29 rfl rfl ?_
      refine x_iconst dx_M_variable_30 ?_
      refine x_iconst dx_M_variable_31 ?_
      refine x_iconst dx_M_variable_32 ?_
      refine x_iconst dx_M_variable_33 ?_
      refine x_cvi4 (c_M_make (σ := stI σ 0 0) h0 hn) cf_M_68 ⟨rfl, rfl, by decide, by decide⟩ ⟨Nat.zero_le _, Nat.zero_le _⟩ (wl_get (by decide)) rfl rfl (Nat.le_of_ble_eq_true rfl) dx_M_variable_34 (fun z u hp => ?_)
      obtain ⟨rfl, rfl⟩ := hp
      first
        | exact hret _ _ _ _ (Or.inl ⟨by omega, rfl, rfl⟩) rfl dx_M_variable_37
        | exact hret _ _ _ _ (Or.inr ⟨hn, rfl, rfl⟩) rfl dx_M_variable_37
    ·
      have h22 : 0 < v7 := h22
      have e7 : v7 = 1 := by omega
      subst e7
      refine x_iconst dx_M_variable_25 ?_
      refine x_goto (tgt := 37) dx_M_variable_26 (by decide) ?_
      first
        | exact hret _ _ _ _ (Or.inl ⟨by omega, rfl, rfl⟩) rfl dx_M_variable_37
        | exact hret _ _ _ _ (Or.inr ⟨hn, rfl, rfl⟩) rfl dx_M_variable_37
  ·
    refine x_icmp_ne (tgt := 14) dx_M_variable_7 (by decide) (by first | exact hs.2.1 _ _ | exact hs.1 _ | exact ⟨by omega, by omega⟩) (by first | exact hs.2.1 _ _ | exact hs.1 _ | exact ⟨by omega, by omega⟩) (fun h7 => ?_) (fun h7 => ?_)
    ·
      refine x_iconst dx_M_variable_14 ?_
      first
        | exact jn7 _ (Or.inl ⟨rfl, h7⟩)
        | exact jn7 _ (Or.inr ⟨rfl, h7⟩)
    ·
      refine x_iconst dx_M_variable_10 ?_
      refine x_goto (tgt := 15) dx_M_variable_11 (by decide) ?_
      first
        | exact jn7 _ (Or.inl ⟨rfl, h7⟩)
        | exact jn7 _ (Or.inr ⟨rfl, h7⟩)
set_option maxRecDepth 100000 in
set_option maxHeartbeats 4000000 in
theorem c_M_why {l : Launch} {D : va_G} {ca : Nat → ClassId} {ad : Nat → Nat} {σ : S0}   : CI l mn_M_why kw_M_why (rmk 1) D ca [.ref (ad 0)] (wg 16 LM ca ad σ) (fun z u => σ.1 1 = z ∧ stI σ 0 0 = u) (wg 16 LM ca ad) := by
  refine ci_in rc_M cd_M_why 1 .int rfl rfl (by decide) (Nat.le_of_ble_eq_true rfl) (fun κ h1 h2 h3 hret => ?_)
  subst h1; subst h2; subst h3
  refine x_lv [(0, .ref (ad 0))] rfl ?_
  refine x_aload_n dx_M_why_0 rfl rfl ?_
  refine x_iconst dx_M_why_1 ?_
  refine x_put fp_M_57 jo_code dx_M_why_2 (by decide) rfl rfl ?_
  refine x_aload_n dx_M_why_5 rfl rfl ?_
  refine x_get fa_M_115 dx_M_why_6 (by decide) rfl rfl ?_
  exact hret _ _ _ _ ⟨rfl, rfl⟩ rfl dx_M_why_9
set_option maxRecDepth 100000 in
set_option maxHeartbeats 4000000 in
theorem c_M_isKnown {l : Launch} {D : va_G} {ca : Nat → ClassId} {ad : Nat → Nat} {σ : S0} {s : Int} (hs : Ok σ) (h0 : 0 ≤ s) (h1 : s < 40) : CI l mn_M_isKnown kw_M_isKnown (rmk 1) D ca [.ref (ad 0), .int (zI s)] (wg 16 LM ca ad σ) (fun z u => bz (0 < σ.2.2 9 s) = z ∧ σ = u) (wg 16 LM ca ad) := by
  refine ci_in rc_M cd_M_isKnown 2 .boolean rfl rfl (by decide) (Nat.le_of_ble_eq_true rfl) (fun κ h1 h2 h3 hret => ?_)
  subst h1; subst h2; subst h3
  refine x_lv [(0, .ref (ad 0)), (1, .int (zI s))] rfl ?_
  refine x_aload_n dx_M_isKnown_0 rfl rfl ?_
  refine x_get fa_M_34 dx_M_isKnown_1 (by decide) rfl rfl ?_
  refine x_iload_n dx_M_isKnown_4 rfl rfl ?_
  refine x_lald dx_M_isKnown_5 (by decide) rfl (by omega) (by omega) (by decide) ?_
  refine x_lconst (z := 0) dx_M_isKnown_6 (by decide) ?_
  refine x_lcmp dx_M_isKnown_7 (hs.2.2 _ _ (by decide)) RgL_0 ?_
  refine x_if_le (tgt := 15) dx_M_isKnown_8 (by decide) (zc_rg _ _) (fun h8 => ?_) (fun h8 => ?_)
  ·
    refine x_iconst dx_M_isKnown_15 ?_
    first
      | exact hret _ _ _ _ ⟨bz_t (zc_gt0 h8), rfl⟩ rfl dx_M_isKnown_16
      | exact hret _ _ _ _ ⟨bz_f (fun q => by have := zc_le0 h8; omega), rfl⟩ rfl dx_M_isKnown_16
  ·
    refine x_iconst dx_M_isKnown_11 ?_
    refine x_goto (tgt := 16) dx_M_isKnown_12 (by decide) ?_
    first
      | exact hret _ _ _ _ ⟨bz_t (zc_gt0 h8), rfl⟩ rfl dx_M_isKnown_16
      | exact hret _ _ _ _ ⟨bz_f (fun q => by have := zc_le0 h8; omega), rfl⟩ rfl dx_M_isKnown_16
set_option maxRecDepth 100000 in
set_option maxHeartbeats 4000000 in
theorem c_M_isFree {l : Launch} {D : va_G} {ca : Nat → ClassId} {ad : Nat → Nat} {σ : S0} {s : Int} (hs : Ok σ) (h0 : 0 ≤ s) (h1 : s < 40) : CI l mn_M_isFree kw_M_isFree (rmk 1) D ca [.ref (ad 0), .int (zI s)] (wg 16 LM ca ad σ) (fun z u => bz (σ.2.1 1 s < 0 ∧ σ.2.1 8 s < 0) = z ∧ σ = u) (wg 16 LM ca ad) := by
  refine ci_in rc_M cd_M_isFree 2 .boolean rfl rfl (by decide) (Nat.le_of_ble_eq_true rfl) (fun κ h1 h2 h3 hret => ?_)
  subst h1; subst h2; subst h3
  refine x_lv [(0, .ref (ad 0)), (1, .int (zI s))] rfl ?_
  refine x_aload_n dx_M_isFree_0 rfl rfl ?_
  refine x_get fa_M_7 dx_M_isFree_1 (by decide) rfl rfl ?_
  refine x_iload_n dx_M_isFree_4 rfl rfl ?_
  refine x_iald dx_M_isFree_5 (by decide) rfl (by omega) (by omega) (by decide) ?_
  refine x_if_ge (tgt := 22) dx_M_isFree_6 (by decide) (by first | exact hs.2.1 _ _ | exact hs.1 _ | exact ⟨by omega, by omega⟩) (fun h6 => ?_) (fun h6 => ?_)
  ·
    refine x_iconst dx_M_isFree_22 ?_
    first
      | exact hret _ _ _ _ ⟨bz_t ⟨h6, h15⟩, rfl⟩ rfl dx_M_isFree_23
      | exact hret _ _ _ _ ⟨bz_f (fun q => by omega), rfl⟩ rfl dx_M_isFree_23
  ·
    refine x_aload_n dx_M_isFree_9 rfl rfl ?_
    refine x_get fa_M_31 dx_M_isFree_10 (by decide) rfl rfl ?_
    refine x_iload_n dx_M_isFree_13 rfl rfl ?_
    refine x_iald dx_M_isFree_14 (by decide) rfl (by omega) (by omega) (by decide) ?_
    refine x_if_ge (tgt := 22) dx_M_isFree_15 (by decide) (by first | exact hs.2.1 _ _ | exact hs.1 _ | exact ⟨by omega, by omega⟩) (fun h15 => ?_) (fun h15 => ?_)
    ·
      refine x_iconst dx_M_isFree_22 ?_
      first
        | exact hret _ _ _ _ ⟨bz_t ⟨h6, h15⟩, rfl⟩ rfl dx_M_isFree_23
        | exact hret _ _ _ _ ⟨bz_f (fun q => by omega), rfl⟩ rfl dx_M_isFree_23
    ·
      refine x_iconst dx_M_isFree_18 ?_
      refine x_goto (tgt := 23) dx_M_isFree_19 (by decide) ?_
      first
        | exact hret _ _ _ _ ⟨bz_t ⟨h6, h15⟩, rfl⟩ rfl dx_M_isFree_23
        | exact hret _ _ _ _ ⟨bz_f (fun q => by omega), rfl⟩ rfl dx_M_isFree_23
set_option maxRecDepth 100000 in
set_option maxHeartbeats 4000000 in
theorem c_M_standsForItself {l : Launch} {D : va_G} {ca : Nat → ClassId} {ad : Nat → Nat} {σ : S0} {s : Int} (hs : Ok σ) (h0 : 0 ≤ s) (h1 : s < 40) : CI l mn_M_standsForItself kw_M_standsForItself (rmk 2) D ca [.ref (ad 0), .int (zI s)] (wg 16 LM ca ad σ) (fun z u => bz ((σ.2.1 1 s < 0 ∧ σ.2.1 8 s < 0) ∧ σ.2.1 7 s = s) = z ∧ σ = u) (wg 16 LM ca ad) := by
  refine ci_in rc_M cd_M_standsForItself 2 .boolean rfl rfl (by decide) (Nat.le_of_ble_eq_true rfl) (fun κ h1 h2 h3 hret => ?_)
  subst h1; subst h2; subst h3
  refine x_lv [(0, .ref (ad 0)), (1, .int (zI s))] rfl ?_
  refine x_aload_n dx_M_standsForItself_0 rfl rfl ?_
  refine x_iload_n dx_M_standsForItself_1 rfl rfl ?_
  refine x_cvi1 (c_M_isFree hs h0 h1) cf_M_109 ⟨rfl, rfl, by decide, by decide⟩ ⟨Nat.zero_le _, Nat.zero_le _⟩ (wl_get (by decide)) rfl rfl (Nat.le_of_ble_eq_true rfl) dx_M_standsForItself_2 (fun z u hp => ?_)
  obtain ⟨rfl, rfl⟩ := hp
  refine x_ifb_eq (tgt := 22) dx_M_standsForItself_5 (by decide) (fun h5 => ?_) (fun h5 => ?_)
  ·
    refine x_iconst dx_M_standsForItself_22 ?_
    first
      | exact hret _ _ _ _ ⟨bz_t ⟨h5, h15⟩, rfl⟩ rfl dx_M_standsForItself_23
      | exact hret _ _ _ _ ⟨bz_f (fun q => h5 q.1), rfl⟩ rfl dx_M_standsForItself_23
      | exact hret _ _ _ _ ⟨bz_f (fun q => h15 q.2), rfl⟩ rfl dx_M_standsForItself_23
  ·
    refine x_aload_n dx_M_standsForItself_8 rfl rfl ?_
    refine x_get fa_M_28 dx_M_standsForItself_9 (by decide) rfl rfl ?_
    refine x_iload_n dx_M_standsForItself_12 rfl rfl ?_
    refine x_iald dx_M_standsForItself_13 (by decide) rfl (by omega) (by omega) (by decide) ?_
    refine x_iload_n dx_M_standsForItself_14 rfl rfl ?_
    refine x_icmp_ne (tgt := 22) dx_M_standsForItself_15 (by decide) (by first | exact hs.2.1 _ _ | exact hs.1 _ | exact ⟨by omega, by omega⟩) (by first | exact hs.2.1 _ _ | exact hs.1 _ | exact ⟨by omega, by omega⟩) (fun h15 => ?_) (fun h15 => ?_)
    ·
      refine x_iconst dx_M_standsForItself_22 ?_
      first
        | exact hret _ _ _ _ ⟨bz_t ⟨h5, h15⟩, rfl⟩ rfl dx_M_standsForItself_23
        | exact hret _ _ _ _ ⟨bz_f (fun q => h5 q.1), rfl⟩ rfl dx_M_standsForItself_23
        | exact hret _ _ _ _ ⟨bz_f (fun q => h15 q.2), rfl⟩ rfl dx_M_standsForItself_23
    ·
      refine x_iconst dx_M_standsForItself_18 ?_
      refine x_goto (tgt := 23) dx_M_standsForItself_19 (by decide) ?_
      first
        | exact hret _ _ _ _ ⟨bz_t ⟨h5, h15⟩, rfl⟩ rfl dx_M_standsForItself_23
        | exact hret _ _ _ _ ⟨bz_f (fun q => h5 q.1), rfl⟩ rfl dx_M_standsForItself_23
        | exact hret _ _ _ _ ⟨bz_f (fun q => h15 q.2), rfl⟩ rfl dx_M_standsForItself_23
set_option maxRecDepth 100000 in
set_option maxHeartbeats 4000000 in
theorem c_M_free {l : Launch} {D : va_G} {ca : Nat → ClassId} {ad : Nat → Nat} {σ : S0}  (hs : Ok σ) (h0 : 0 ≤ σ.1 2) (h40 : σ.1 2 ≤ 40) : CI l mn_M_free kw_M_free (rmk 3) D ca [.ref (ad 0)] (wg 16 LM ca ad σ) (fun z u => sm (fun s => bz ((σ.2.1 1 s < 0 ∧ σ.2.1 8 s < 0) ∧ σ.2.1 7 s = s)) (σ.1 2).toNat = z ∧ σ = u) (wg 16 LM ca ad) := by
  refine ci_in rc_M cd_M_free 3 .int rfl rfl (by decide) (Nat.le_of_ble_eq_true rfl) (fun κ h1 h2 h3 hret => ?_)
  subst h1; subst h2; subst h3
  refine x_lv [(0, .ref (ad 0))] rfl ?_
  let FR : Int → Int := fun s => bz ((σ.2.1 1 s < 0 ∧ σ.2.1 8 s < 0) ∧ σ.2.1 7 s = s)
  refine x_iconst dx_M_free_0 ?_
  refine x_istore_n dx_M_free_1 rfl (by decide) ?_
  refine x_iconst dx_M_free_2 ?_
  refine x_istore_n dx_M_free_3 rfl (by decide) ?_
  refine x_lv [(0, .ref (ad 0)), (1, .int (zI (sm FR (0 : Int).toNat))), (2, .int (zI 0))] rfl ?_
  refine x_loop (fun x : Int => X κ (rmk 3) rc_M cd_M_free 3 (wg 16 LM κ.2.2.1.2.2 ad σ) 0 0 4 [(0, .ref (ad 0)), (1, .int (zI (sm FR (x : Int).toNat))), (2, .int (zI x))] []) (fun x => 0 ≤ x ∧ x ≤ σ.1 2) (fun x => (σ.1 2 - x).toNat) (fun x hi4 ih4 => ?_) 0 ⟨Int.le_refl _, h0⟩
  obtain ⟨x0, x1⟩ := hi4
  have hx40 : x ≤ 40 := by omega
  refine x_iload_n dx_M_free_4 rfl rfl ?_
  refine x_aload_n dx_M_free_5 rfl rfl ?_
  refine x_get fa_M_61 dx_M_free_6 (by decide) rfl rfl ?_
  refine x_icmp_ge (tgt := 34) dx_M_free_9 (by decide) ⟨by omega, by omega⟩ (hs.1 _) (fun h9 => ?_) (fun h9 => ?_)
  ·
    refine x_iload_n dx_M_free_34 rfl rfl ?_
    have e : x = σ.1 2 := by omega
    subst e
    exact hret _ _ _ _ ⟨rfl, rfl⟩ rfl dx_M_free_35
  ·
    refine x_iload_n dx_M_free_12 rfl rfl ?_
    refine x_aload_n dx_M_free_13 rfl rfl ?_
    refine x_iload_n dx_M_free_14 rfl rfl ?_
    refine x_cvi1 (c_M_standsForItself hs x0 (by omega)) cf_M_112 ⟨rfl, rfl, by decide, by decide⟩ ⟨Nat.zero_le _, Nat.zero_le _⟩ (wl_get (by decide)) rfl rfl (Nat.le_of_ble_eq_true rfl) dx_M_free_15 (fun z u hp => ?_)
    obtain ⟨rfl, rfl⟩ := hp
    refine x_ifb_eq (tgt := 25) dx_M_free_18 (by decide) (fun h18 => ?_) (fun h18 => ?_)
    ·
      have e : FR x = 0 := bz_f h18
      refine x_iconst dx_M_free_25 ?_
      first
        | refine x_st (show _ = [Value.int (zI (FR x)), Value.int (zI (sm FR x.toNat))] from by rw [e]) ?_
      refine x_iadd dx_M_free_26 ?_
      refine x_istore_n dx_M_free_27 rfl (by decide) ?_
      refine x_iinc dx_M_free_28 rfl (by decide) ?_
      refine x_goto (tgt := 4) dx_M_free_31 (by decide) ?_
      rw [← sm_succ FR x0]
      refine x_lv [(0, .ref (ad 0)), (1, .int (zI (sm FR ((x + 1) : Int).toNat))), (2, .int (zI (x + 1)))] rfl ?_
      exact ih4 (x + 1) ⟨by omega, by omega⟩ (by omega)
    ·
      have e : FR x = 1 := bz_t h18
      refine x_iconst dx_M_free_21 ?_
      refine x_goto (tgt := 26) dx_M_free_22 (by decide) ?_
      first
        | refine x_st (show _ = [Value.int (zI (FR x)), Value.int (zI (sm FR x.toNat))] from by rw [e]) ?_
      refine x_iadd dx_M_free_26 ?_
      refine x_istore_n dx_M_free_27 rfl (by decide) ?_
      refine x_iinc dx_M_free_28 rfl (by decide) ?_
      refine x_goto (tgt := 4) dx_M_free_31 (by decide) ?_
      rw [← sm_succ FR x0]
      refine x_lv [(0, .ref (ad 0)), (1, .int (zI (sm FR ((x + 1) : Int).toNat))), (2, .int (zI (x + 1)))] rfl ?_
      exact ih4 (x + 1) ⟨by omega, by omega⟩ (by omega)
