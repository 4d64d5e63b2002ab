def rmx (k mc ms : Nat) : Room := { frames := k, cells := mc, slots := ms, locals := 40 * k }
set_option maxRecDepth 100000 in
set_option maxHeartbeats 4000000 in
theorem c_T_needNode {l : Launch} {D : va_G} {ca : Nat → ClassId} {ad : Nat → Nat} {σ : S0} {s : Int} (hs : Ok σ) (hrs : Rg s) : CXV l mn_T_needNode kw_T_needNode (rmx 6 1 6) 1 6 D ca [.ref (ad 0), .int (zI s)] (wg 82 LT ca ad σ) (fun u => In (σ.1 0) s ∧ σ = u) (fun E u => E = rc_jA ∧ ¬ In (σ.1 0) s ∧ σ = u) (wg 82 LT ca ad) := by
  refine cxv_in rc_T cd_T_needNode 2 rfl rfl (by decide) (Nat.le_of_ble_eq_true rfl) ⟨by decide, by decide, by decide, by decide⟩ (fun κ h1 h2 h3 Z hret hthr hout => ?_)
  subst h1; subst h2; subst h3
  refine x_lv [(0, .ref (ad 0)), (1, .int (zI s))] rfl ?_
  refine x_aload_n dx_T_needNode_0 rfl rfl ?_
  refine x_get fa_T_12 dx_T_needNode_1 (by decide) rfl rfl ?_
  refine x_iload_n dx_T_needNode_4 rfl rfl ?_
  refine x_cvi1 (c_N_has hs hrs) cf_T_65 ⟨rfl, rfl, by decide, by decide⟩ ⟨by decide, by decide⟩ (wl_get (by decide)) rfl rfl (Nat.le_of_ble_eq_true rfl) dx_T_needNode_5 (fun z u hp => ?_)
  obtain ⟨rfl, rfl⟩ := hp
  refine x_ifb_ne (tgt := 21) dx_T_needNode_8 (by decide) (fun h8 => ?_) (fun h8 => ?_)
  ·
    exact hret _ _ _ _ _ (by decide) (by decide) ⟨h8, rfl⟩ dx_T_needNode_21
  ·
    exact hthr rc_jA _ _ _ _ _ _ ⟨rfl, h8, rfl⟩ tf_T_needNode_11 (by decide) (by decide) (Nat.le_of_ble_eq_true rfl)
set_option maxRecDepth 100000 in
set_option maxHeartbeats 4000000 in
theorem c_T_needNodeOrNone {l : Launch} {D : va_G} {ca : Nat → ClassId} {ad : Nat → Nat} {σ : S0} {s : Int} (hs : Ok σ) (hrs : Rg s) : CXV l mn_T_needNodeOrNone kw_T_needNodeOrNone (rmx 7 1 6) 1 6 D ca [.ref (ad 0), .int (zI s)] (wg 82 LT ca ad σ) (fun u => (s = -1 ∨ In (σ.1 0) s) ∧ σ = u) (fun E u => E = rc_jA ∧ ¬ (s = -1 ∨ In (σ.1 0) s) ∧ σ = u) (wg 82 LT ca ad) := by
  refine cxv_in rc_T cd_T_needNodeOrNone 2 rfl rfl (by decide) (Nat.le_of_ble_eq_true rfl) ⟨by decide, by decide, by decide, by decide⟩ (fun κ h1 h2 h3 Z hret hthr hout => ?_)
  subst h1; subst h2; subst h3
  refine x_lv [(0, .ref (ad 0)), (1, .int (zI s))] rfl ?_
  refine x_iload_n dx_T_needNodeOrNone_0 rfl rfl ?_
  refine x_iconst dx_T_needNodeOrNone_1 ?_
  refine x_icmp_eq (tgt := 10) dx_T_needNodeOrNone_2 (by decide) hrs ⟨by decide, by decide⟩ (fun h2 => ?_) (fun h2 => ?_)
  ·
    first
      | exact hret _ _ _ _ _ (by decide) (by decide) ⟨Or.inl h2, rfl⟩ dx_T_needNodeOrNone_10
      | exact hret _ _ _ _ _ (by decide) (by decide) ⟨Or.inr h9, rfl⟩ dx_T_needNodeOrNone_10
  ·
    refine x_aload_n dx_T_needNodeOrNone_5 rfl rfl ?_
    refine x_iload_n dx_T_needNodeOrNone_6 rfl rfl ?_
    refine x_tv1 (c_T_needNode hs hrs) cf_T_107 Z ⟨rfl, rfl, by decide, by decide⟩ ⟨by decide, by decide⟩ (wl_get (by decide)) rfl rfl (Nat.le_of_ble_eq_true rfl) dx_T_needNodeOrNone_7 (fun E9 u hp => hout _ _ _ _ _ _ (⟨hp.1, fun q => q.elim h2 hp.2.1, hp.2.2⟩) (by decide) (by decide)) (fun u hp => ?_)
    obtain ⟨h9, rfl⟩ := hp
    first
      | exact hret _ _ _ _ _ (by decide) (by decide) ⟨Or.inl h2, rfl⟩ dx_T_needNodeOrNone_10
      | exact hret _ _ _ _ _ (by decide) (by decide) ⟨Or.inr h9, rfl⟩ dx_T_needNodeOrNone_10
set_option maxRecDepth 100000 in
set_option maxHeartbeats 4000000 in
theorem c_T_needRoomForNode {l : Launch} {D : va_G} {ca : Nat → ClassId} {ad : Nat → Nat} {σ : S0}  (hs : Ok σ) : CXV l mn_T_needRoomForNode kw_T_needRoomForNode (rmx 6 1 6) 1 6 D ca [.ref (ad 0)] (wg 82 LT ca ad σ) (fun u => σ.1 0 < 40 ∧ σ = u) (fun E u => E = rc_jS ∧ 40 ≤ σ.1 0 ∧ σ = u) (wg 82 LT ca ad) := by
  refine cxv_in rc_T cd_T_needRoomForNode 1 rfl rfl (by decide) (Nat.le_of_ble_eq_true rfl) ⟨by decide, by decide, by decide, by decide⟩ (fun κ h1 h2 h3 Z hret hthr hout => ?_)
  subst h1; subst h2; subst h3
  refine x_lv [(0, .ref (ad 0))] rfl ?_
  refine x_aload_n dx_T_needRoomForNode_0 rfl rfl ?_
  refine x_get fa_T_12 dx_T_needRoomForNode_1 (by decide) rfl rfl ?_
  refine x_cvi0 (c_N_areFull hs) cf_T_150 ⟨rfl, rfl, by decide, by decide⟩ ⟨by decide, by decide⟩ (wl_get (by decide)) rfl rfl (Nat.le_of_ble_eq_true rfl) dx_T_needRoomForNode_4 (fun z u hp => ?_)
  obtain ⟨rfl, rfl⟩ := hp
  refine x_ifb_eq (tgt := 20) dx_T_needRoomForNode_7 (by decide) (fun h7 => ?_) (fun h7 => ?_)
  ·
    exact hret _ _ _ _ _ (by decide) (by decide) ⟨by omega, rfl⟩ dx_T_needRoomForNode_20
  ·
    exact hthr rc_jS _ _ _ _ _ _ ⟨rfl, h7, rfl⟩ tf_T_needRoomForNode_10 (by decide) (by decide) (Nat.le_of_ble_eq_true rfl)
set_option maxRecDepth 100000 in
set_option maxHeartbeats 4000000 in
theorem c_T_makeNode {l : Launch} {D : va_G} {ca : Nat → ClassId} {ad : Nat → Nat} {σ : S0} {k a b : Int} {e1 e2 : Int → Int} (hI : INV σ e1 e2) (hn : σ.1 0 < 40) (hN : NewOk (σ.1 0) k a b) : CI l mn_T_makeNode kw_T_makeNode (rmk 6) D ca [.ref (ad 0), .int (zI k), .int (zI a), .int (zI b)] (wg 82 LT ca ad σ) (fun z u => σ.1 0 = z ∧ FRv (mkn σ k a b) u ∧ INV u e1 e2) (wg 82 LT ca ad) := by
  refine ci_in rc_T cd_T_makeNode 5 .int rfl rfl (by decide) (Nat.le_of_ble_eq_true rfl) (fun κ h1 h2 h3 hret => ?_)
  subst h1; subst h2; subst h3
  refine x_lv [(0, .ref (ad 0)), (1, .int (zI k)), (2, .int (zI a)), (3, .int (zI b))] rfl ?_
  have h0 := inv0_mkn hI.1 hn hN
  have h20 : 0 ≤ σ.1 2 := hI.1.2.2.1
  have h21 : σ.1 2 < 21 := by have := hI.1.2.2.2.1; omega
  refine x_aload_n dx_T_makeNode_0 rfl rfl ?_
  refine x_get fa_T_12 dx_T_makeNode_1 (by decide) rfl rfl ?_
  refine x_iload_n dx_T_makeNode_4 rfl rfl ?_
  refine x_iload_n dx_T_makeNode_5 rfl rfl ?_
  refine x_iload_n dx_T_makeNode_6 rfl rfl ?_
  refine x_cvi3 (c_N_add hI.1.2.1.1 hn) cf_T_153 ⟨rfl, rfl, by decide, by decide⟩ ⟨Nat.zero_le _, Nat.zero_le _⟩ (wl_get (by decide)) rfl rfl (Nat.le_of_ble_eq_true rfl) dx_T_makeNode_7 (fun z u hp => ?_)
  obtain ⟨rfl, hu⟩ := hp
  have hu : mkn σ k a b = u := hu
  subst hu
  refine x_istore dx_T_makeNode_10 (by decide) ?_
  refine x_aload_n dx_T_makeNode_12 rfl rfl ?_
  refine x_get fa_T_28 dx_T_makeNode_13 (by decide) rfl rfl ?_
  refine x_aload_n dx_T_makeNode_16 rfl rfl ?_
  refine x_get fa_T_21 dx_T_makeNode_17 (by decide) rfl rfl ?_
  refine x_cvr0 (c_E_keptRow (σ := mkn σ k a b) h20 h21) cf_T_94 ⟨rfl, rfl, by decide, by decide⟩ ⟨Nat.zero_le _, Nat.zero_le _⟩ (wl_get (by decide)) rfl rfl (Nat.le_of_ble_eq_true rfl) dx_T_makeNode_20 (fun z u hp => ?_)
  obtain ⟨rfl, rfl⟩ := hp
  refine x_cvi1 (c_V_settle (σ := mkn σ k a b) h0.1 (show (σ.1 2).toNat < 21 by omega) h0.2.1 (inv_row h0).1) cf_T_98 ⟨rfl, rfl, by decide, by decide⟩ ⟨Nat.zero_le _, Nat.zero_le _⟩ (wl_get (by decide)) rfl rfl (Nat.le_of_ble_eq_true rfl) dx_T_makeNode_23 (fun z u hp => ?_)
  obtain ⟨pF, pO, pz⟩ := hp
  have hv : VF (u.1 0) (u.2.1 5) (u.2.1 6) (u.2.1 7) (kr u) u := by
    rcases pz with ⟨-, pv⟩ | ⟨-, ps⟩
    · exact vf_settled pF rfl pv
    · exact (not_st_new hI hn hN (by
        have er : (mkn σ k a b).2.1 (21 + (σ.1 2).toNat) = kr σ := by
          show (stR (stR (stR σ 5 _) 6 _) 7 _).2.1 (21 + (σ.1 2).toNat) = _
          rw [stR_ne _ _ (by omega), stR_ne _ _ (by omega), stR_ne _ _ (by omega)]
        rw [← er]
        exact ps)).elim
  refine x_pop dx_T_makeNode_26 rfl ?_
  refine x_iload dx_T_makeNode_27 rfl ?_
  exact hret _ _ _ _ ⟨rfl, pF, inv_settled h0 pF pO, hv⟩ rfl dx_T_makeNode_29
set_option maxRecDepth 100000 in
set_option maxHeartbeats 4000000 in
theorem c_T_tryEquation {l : Launch} {D : va_G} {ca : Nat → ClassId} {ad : Nat → Nat} {σ : S0} {s t : Int} {e1 e2 : Int → Int} (hI : INV σ e1 e2) (h20 : σ.1 2 < 20) (hss : In (σ.1 0) s) (htt : In (σ.1 0) t) (h1 : e1 (σ.1 2) = s) (h2 : e2 (σ.1 2) = t) : CI l mn_T_tryEquation kw_T_tryEquation (rmk 6) D ca [.ref (ad 0), .int (zI s), .int (zI t)] (wg 82 LT ca ad σ) (fun z u => SN σ u ∧ u.1 5 = σ.1 5 ∧ ((1 = z ∧ u.1 2 = σ.1 2 ∧ INV u e1 e2 ∧ Clash (σ.1 0) (σ.2.1 5) (cl σ e1 e2 (σ.1 2 + 1))) ∨ (2 = z ∧ u.1 2 = σ.1 2 ∧ INV u e1 e2 ∧ Loop (σ.1 0) (σ.2.1 5) (σ.2.1 6) (σ.2.1 7) (cl σ e1 e2 (σ.1 2 + 1))) ∨ (0 = z ∧ u.1 2 = σ.1 2 + 1 ∧ INV u e1 e2))) (wg 82 LT ca ad) := by
  refine ci_in rc_T cd_T_tryEquation 3 .int rfl rfl (by decide) (Nat.le_of_ble_eq_true rfl) (fun κ h1 h2 h3 hret => ?_)
  subst h1; subst h2; subst h3
  refine x_lv [(0, .ref (ad 0)), (1, .int (zI s)), (2, .int (zI t))] rfl ?_
  have h00 := hI.1.2.2.1
  have hr21 : (σ.1 2 + 1).toNat < 21 := by omega
  have hall : ∀ k, 0 ≤ k → k < σ.1 2 + 1 → In (σ.1 0) (e1 k) ∧ In (σ.1 0) (e2 k) := fun k k0 k1 => by
    by_cases c : k = σ.1 2
    · rw [c, h1, h2]; exact ⟨hss, htt⟩
    · exact hI.1.2.2.2.2.1 k k0 (by omega)
  refine x_aload_n dx_T_tryEquation_0 rfl rfl ?_
  refine x_get fa_T_21 dx_T_tryEquation_1 (by decide) rfl rfl ?_
  refine x_iload_n dx_T_tryEquation_4 rfl rfl ?_
  refine x_iload_n dx_T_tryEquation_5 rfl rfl ?_
  refine x_cvi2 (c_E_join hI.1.1 hI.1.2.1 h00 h20 (inv_row hI.1) hall h1 h2) cf_T_156 ⟨rfl, rfl, by decide, by decide⟩ ⟨Nat.zero_le _, Nat.zero_le _⟩ (wl_get (by decide)) rfl rfl (Nat.le_of_ble_eq_true rfl) dx_T_tryEquation_6 (fun z u1 hp => ?_)
  obtain ⟨jF, jO, jz⟩ := hp
  have sn := sn_frj jF
  have k2 : u1.1 2 = σ.1 2 := jF.1 2 (by decide)
  rcases jz with ⟨rfl, hrow⟩ | ⟨rfl, hcl⟩
  ·
    refine x_if_ne (tgt := 14) dx_T_tryEquation_9 (by decide) ⟨by decide, by decide⟩ (fun _ => ?_) (fun h => absurd h (by decide))
    refine x_aload_n dx_T_tryEquation_14 rfl rfl ?_
    refine x_get fa_T_28 dx_T_tryEquation_15 (by decide) rfl rfl ?_
    refine x_aload_n dx_T_tryEquation_18 rfl rfl ?_
    refine x_get fa_T_21 dx_T_tryEquation_19 (by decide) rfl rfl ?_
    refine x_cvr0 (c_E_triedRow (σ := u1) (by rw [k2]; exact h00) (by rw [k2]; exact h20)) cf_T_159 ⟨rfl, rfl, by decide, by decide⟩ ⟨Nat.zero_le _, Nat.zero_le _⟩ (wl_get (by decide)) rfl rfl (Nat.le_of_ble_eq_true rfl) dx_T_tryEquation_22 (fun z u hp => ?_)
    obtain ⟨rfl, rfl⟩ := hp
    rw [k2]
    refine x_cvi1 (c_V_settle (σ := u1) (r := (σ.1 2 + 1).toNat) jO hr21 (by rw [sn.1, sn.2.1, sn.2.2.1, sn.2.2.2]; exact hI.1.2.1) (by rw [sn.1, sn.2.1]; exact hrow.1)) cf_T_98 ⟨rfl, rfl, by decide, by decide⟩ ⟨Nat.zero_le _, Nat.zero_le _⟩ (wl_get (by decide)) rfl rfl (Nat.le_of_ble_eq_true rfl) dx_T_tryEquation_25 (fun z u2 hp => ?_)
    obtain ⟨pF, pO, pz⟩ := hp
    have k3 : u2.1 2 = σ.1 2 := pF.2.2.1.trans k2
    have s2 := sn.trans (sn_frv pF)
    have f2 : u2.1 5 = σ.1 5 := pF.2.2.2.1.trans (jF.1 5 (by decide))
    rcases pz with ⟨rfl, pv⟩ | ⟨rfl, ps⟩
    ·
      refine x_if_ne (tgt := 48) dx_T_tryEquation_28 (by decide) ⟨by decide, by decide⟩ (fun _ => ?_) (fun h => absurd h (by decide))
      refine x_aload_n dx_T_tryEquation_48 rfl rfl ?_
      refine x_get fa_T_21 dx_T_tryEquation_49 (by decide) rfl rfl ?_
      refine x_dup dx_T_tryEquation_52 rfl ?_
      refine x_get fa_T_89 dx_T_tryEquation_53 (by decide) rfl rfl ?_
      refine x_iconst dx_T_tryEquation_56 ?_
      refine x_iadd dx_T_tryEquation_57 ?_
      refine x_put fp_T_89 io_kept dx_T_tryEquation_58 (by decide) rfl rfl ?_
      refine x_iconst dx_T_tryEquation_61 ?_
      exact hret _ _ _ _ ⟨s2, f2, Or.inr (Or.inr ⟨rfl, show u2.1 2 + 1 = σ.1 2 + 1 by rw [k3], try_ok hI h20 (by rw [h1, h2]; exact ⟨hss, htt⟩) jF jO hrow pF pO pv⟩)⟩ rfl dx_T_tryEquation_62
    ·
      refine x_if_ne (tgt := 48) dx_T_tryEquation_28 (by decide) ⟨by decide, by decide⟩ (fun h => absurd rfl h) (fun _ => ?_)
      have hi2 := try_kept hI jF jO pF pO
      refine x_aload_n dx_T_tryEquation_31 rfl rfl ?_
      refine x_get fa_T_28 dx_T_tryEquation_32 (by decide) rfl rfl ?_
      refine x_aload_n dx_T_tryEquation_35 rfl rfl ?_
      refine x_get fa_T_21 dx_T_tryEquation_36 (by decide) rfl rfl ?_
      refine x_cvr0 (c_E_keptRow (σ := u2) (by rw [k3]; exact h00) (by rw [k3]; omega)) cf_T_94 ⟨rfl, rfl, by decide, by decide⟩ ⟨Nat.zero_le _, Nat.zero_le _⟩ (wl_get (by decide)) rfl rfl (Nat.le_of_ble_eq_true rfl) dx_T_tryEquation_39 (fun z u hp => ?_)
      obtain ⟨rfl, rfl⟩ := hp
      refine x_cvi1 (c_V_settle (σ := u2) (r := (u2.1 2).toNat) pO (by rw [k3]; omega) hi2.2.1 (inv_row hi2).1) cf_T_98 ⟨rfl, rfl, by decide, by decide⟩ ⟨Nat.zero_le _, Nat.zero_le _⟩ (wl_get (by decide)) rfl rfl (Nat.le_of_ble_eq_true rfl) dx_T_tryEquation_42 (fun z u3 hp => ?_)
      obtain ⟨qF, qO, qz⟩ := hp
      refine x_pop dx_T_tryEquation_45 rfl ?_
      refine x_iconst dx_T_tryEquation_46 ?_
      exact hret _ _ _ _ ⟨s2.trans (sn_frv qF), qF.2.2.2.1.trans f2, Or.inr (Or.inl ⟨rfl, qF.2.2.1.trans k3, try_back hI jF jO pF pO qF qO qz, try_loop jF hrow ps⟩)⟩ rfl dx_T_tryEquation_47
  ·
    refine x_if_ne (tgt := 14) dx_T_tryEquation_9 (by decide) ⟨by decide, by decide⟩ (fun h => absurd rfl h) (fun _ => ?_)
    refine x_iconst dx_T_tryEquation_12 ?_
    exact hret _ _ _ _ ⟨sn, jF.1 5 (by decide), Or.inl ⟨rfl, k2, try_clash hI jF jO, hcl⟩⟩ rfl dx_T_tryEquation_13
set_option maxRecDepth 100000 in
set_option maxHeartbeats 4000000 in
theorem c_T_variable {l : Launch} {D : va_G} {ca : Nat → ClassId} {ad : Nat → Nat} {σ : S0} {e1 e2 : Int → Int} (hI : INV σ e1 e2) : CXI l mn_T_variable kw_T_variable (rmx 8 2 12) 2 12 D ca [.ref (ad 0)] (wg 82 LT ca ad σ) (fun z u => σ.1 0 < 40 ∧ σ.1 0 = z ∧ FRv (mkn σ (-1) (-1) (-1)) u ∧ INV u e1 e2) (fun E u => E = rc_jS ∧ 40 ≤ σ.1 0 ∧ σ = u) (wg 82 LT ca ad) := by
  refine cxi_in rc_T cd_T_variable 1 .int rfl rfl (by decide) (Nat.le_of_ble_eq_true rfl) ⟨by decide, by decide, by decide, by decide⟩ (fun κ h1 h2 h3 Z hret hthr hout => ?_)
  subst h1; subst h2; subst h3
  refine x_lv [(0, .ref (ad 0))] rfl ?_
  refine x_aload_n dx_T_variable_0 rfl rfl ?_
  refine x_tv0 (c_T_needRoomForNode hI.1.1) cf_T_45 Z ⟨rfl, rfl, by decide, by decide⟩ ⟨by decide, by decide⟩ (wl_get (by decide)) rfl rfl (Nat.le_of_ble_eq_true rfl) dx_T_variable_1 (fun E9 u hp => hout _ _ _ _ _ _ (hp) (by decide) (by decide)) (fun u hp => ?_)
  obtain ⟨h40, rfl⟩ := hp
  refine x_aload_n dx_T_variable_4 rfl rfl ?_
  refine x_iconst dx_T_variable_5 ?_
  refine x_iconst dx_T_variable_6 ?_
  refine x_iconst dx_T_variable_7 ?_
  refine x_cvi3 (c_T_makeNode hI h40 ⟨Or.inl rfl, Or.inl rfl, Or.inl rfl, fun _ => ⟨rfl, rfl⟩, fun q => absurd rfl q⟩) cf_T_48 ⟨rfl, rfl, by decide, by decide⟩ ⟨by decide, by decide⟩ (wl_get (by decide)) rfl rfl (Nat.le_of_ble_eq_true rfl) dx_T_variable_8 (fun z u hp => ?_)
  exact hret _ _ _ _ _ _ (by decide) (by decide) ⟨h40, hp⟩ rfl dx_T_variable_11
